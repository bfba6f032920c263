/** Promises 12 to 15: the TAPE, the TEXTS and their FAULTS. */
public final class TextsTest {
    private static final int LAW = 0;
    private static final int HEEDS = 1;
    private static final int PLANS = 2;
    private static final int PATHS = 3;
    private static final int LOADS = 4;

    public static void main(String[] args) {
        feeds();
        ends();
        takesTexts();
        tellsOfTheLatestText();
        refusesWords();
        refusesLaws();
        countsWhatIsOpen();
        refusesHeeds();
        refusesPlans();
        refusesPathsAndLoads();
        refusesLinesTooMany();
        followsTheLaw();
        holdsWhatTheLawTells();
        Due.end("TextsTest");
    }

    private static void feeds() {
        MuleVote x = new MuleVote();
        for (int i = 1; i <= 20; i++) {
            Due.is("feed " + i, x.feed(0x6c6f6164, 0x20312077, 0x6f727468, 0x20313b0a, 0x20202020), 20 * i);
        }
        Due.is("more than 400", x.feed(0, 0, 0, 0, 0), -1);
        x.end(381);
        Due.is("more than 400", x.feed(0, 0, 0, 0, 0), -1);
        x.end(380);
        Due.is("just 400", x.feed(0x20202020, 0x20202020, 0x20202020, 0x20202020, 0x20202020), 400);
        x.end(160);
        Due.is("the highest byte first", x.text(LOADS), 8);
        Due.is("the TAPE is empty then", x.feed(1, 2, 3, 4, 5), 20);
    }

    private static void ends() {
        MuleVote x = new MuleVote();
        Due.is("end(0)", x.end(0), true);
        Due.is("end(1) of none", x.end(1), false);
        Due.feed(x, "load 1 worth 1;load 2 worth 2;");
        Due.is("end(31)", x.end(31), false);
        Due.is("end(-1)", x.end(-1), false);
        Due.is("end(30)", x.end(30), true);
        Due.is("end(15)", x.end(15), true);
        Due.is("end(16)", x.end(16), false);
        Due.is("text(4)", x.text(LOADS), 1);
    }

    private static void takesTexts() {
        MuleVote x = ActsTest.train(3, 2);
        Due.is("THE LAW", Due.tell(x, LAW, "lean\n1+2*3/4-age when\nnot(1<2 or mule=3)and 1>0;need 1;risk 0;"), 3);
        Due.is("without blanks", Due.tell(x, HEEDS, "mule0heeds1and2;mule1heeds2;"), 2);
        Due.is("of(0, 4)", x.of(0, 4), 6);
        Due.is("PLANS", Due.tell(x, PLANS, "on 0 salt 1 2;on 999 sing 0;on 1 whip 0 1;on 2 vote;on 3 go 9;"), 5);
        Due.is("PATHS", Due.tell(x, PATHS, " path 0 9 hours 24 ; path 0 9 hours 1 ; path 9 0 hours 1 ; "), 3);
        Due.is("the first line alone counts", x.path(0, 9), 24);
        Due.is("LOADS", Due.tell(x, LOADS, "load 40 worth 99; load 1 worth 1;"), 2);
        int[] lines = {3, 2, 5, 3, 2};
        for (int k = 0; k < 5; k++) {
            Due.is("look(" + (11 + k) + ")", x.look(11 + k), lines[k]);
            Due.fault(x, k, "!", 1, 0);
            Due.is("a refused text stays as it was", x.look(11 + k), lines[k]);
        }
        Due.is("the same heeds", x.of(0, 4), 6);
        Due.is("a new text instead of the old", Due.tell(x, HEEDS, "mule 2 heeds 0; mule 2 heeds 1;"), 2);
        Due.is("of(0, 4)", x.of(0, 4), 0);
        Due.is("of(2, 4)", x.of(2, 4), 3);
        for (int k = 0; k < 5; k++) {
            Due.is("an empty text", Due.tell(x, k, k == 2 ? " \n" : ""), 0);
            Due.is("look(" + (11 + k) + ")", x.look(11 + k), 0);
        }
    }

    private static void tellsOfTheLatestText() {
        MuleVote x = new MuleVote();
        Due.fault(x, LAW, "lean", 1, 4);
        Due.is("fault(2)", x.fault(2), -1);
        Due.is("fault(-1)", x.fault(-1), -1);
        Due.is("feeding leaves it", x.feed(0, 0, 0, 0, 0), 20);
        Due.is("fault(0)", x.fault(0), 1);
        Due.is("no such TEXT", x.text(5), -1);
        Due.is("fault(0)", x.fault(0), 0);
        Due.is("fault(1)", x.fault(1), -1);
        Due.is("the TAPE is empty", x.end(1), false);
        Due.fault(x, LAW, "lean 1;  ; ", 1, 9);
        Due.is("no such TEXT", x.text(-1), -1);
        Due.is("fault(0)", x.fault(0), 0);
        Due.fault(x, LAW, "lean 1  ", 1, 8);
        Due.is("a good one", Due.tell(x, LAW, "lean 1;"), 1);
        Due.is("fault(0)", x.fault(0), 0);
        Due.is("fault(1)", x.fault(1), -1);
    }

    private static void refusesWords() {
        MuleVote x = ActsTest.train(3, 2);
        Due.fault(x, LAW, "leaning 1;", 1, 0);
        Due.fault(x, LAW, "Lean 1;", 1, 0);
        Due.fault(x, LAW, "leanX 1;", 1, 0);
        Due.fault(x, LAW, "leanA 1;", 1, 0);
        Due.fault(x, LAW, "leanZ 1;", 1, 0);
        Due.fault(x, LAW, "lean@1;", 1, 4);
        Due.fault(x, LAW, "lean[1;", 1, 4);
        Due.fault(x, LAW, "lean`1;", 1, 4);
        Due.fault(x, LAW, "lean{1;", 1, 4);
        Due.fault(x, LAW, "lean 1:;", 1, 6);
        Due.fault(x, LAW, "lean 1\t;", 1, 6);
        Due.fault(x, LAW, "lean\r1;", 1, 4);
        Due.fault(x, LAW, "lean \u00e9;", 1, 5);
        Due.fault(x, LAW, "lean 00000;", 1, 5);
        Due.fault(x, LAW, "lean 1.;", 1, 6);
        Due.fault(x, LAW, "lean heeds;", 1, 5);
        Due.fault(x, LAW, "lean 1 2;", 1, 7);
        Due.fault(x, LAW, "lean 1age;", 1, 6);
        Due.is("four digits", Due.tell(x, LAW, "lean 0000+9999;"), 1);
        Due.fault(x, HEEDS, "mule 0 lean 1;", 1, 7);
        Due.fault(x, HEEDS, "on 0 vote;", 1, 0);
        Due.fault(x, PLANS, "on vote;", 1, 3);
    }

    private static void refusesLaws() {
        MuleVote x = ActsTest.train(3, 2);
        Due.fault(x, LAW, "lean -1;", 1, 5);
        Due.fault(x, LAW, "lean (1);", 1, 5);
        Due.fault(x, LAW, "lean 1+;", 1, 7);
        Due.fault(x, LAW, "lean 1/age;", 1, 7);
        Due.fault(x, LAW, "lean 1/0;", 2, 7);
        Due.fault(x, LAW, "lean 1/0000;", 2, 7);
        Due.fault(x, LAW, "lean 1<2;", 1, 6);
        Due.fault(x, LAW, "lean 1 and 2;", 1, 7);
        Due.fault(x, LAW, "lean 1 when 1;", 1, 13);
        Due.fault(x, LAW, "lean 1 when 1<2<3;", 1, 15);
        Due.fault(x, LAW, "lean 1 when 1<2 when 1<2;", 1, 16);
        Due.fault(x, LAW, "lean 1 when (1)<2;", 1, 14);
        Due.fault(x, LAW, "lean 1 when (1<2)+1<2;", 1, 17);
        Due.fault(x, LAW, "lean 1 when (1<2;", 1, 16);
        Due.fault(x, LAW, "lean 1 when 1<2);", 1, 15);
        Due.fault(x, LAW, "lean 1 when 1<(2);", 1, 14);
        Due.fault(x, LAW, "lean 1 when 1 < not 2;", 1, 16);
        Due.fault(x, LAW, "lean 1 when 1<2 and;", 1, 19);
        Due.fault(x, LAW, "lean 1 when ();", 1, 13);
        Due.fault(x, LAW, "lean 1 when;", 1, 11);
        Due.fault(x, LAW, "lean 1 when 1<2", 1, 15);
        Due.fault(x, LAW, ";", 1, 0);
        Due.fault(x, LAW, "need 1;;", 1, 7);
        Due.is("parts", Due.tell(x, LAW, "lean 9999/9999/1*age/2;"), 1);
        Due.fault(x, LAW, "lean 1 when not", 1, 15);
        Due.is("nothing is left of a refused one", Due.tell(x, LAW, "need 55;need 1 when 1<2;"), 2);
        Due.is("of(0, 5)", x.of(0, 5), 55);
    }

    private static void countsWhatIsOpen() {
        MuleVote x = ActsTest.train(3, 2);
        Due.is("eight open", Due.tell(x, LAW, "lean 1 when ((((((((1<2))))))));"), 1);
        Due.fault(x, LAW, "lean 1 when (((((((((1<2)))))))));", 3, 20);
        Due.fault(x, LAW, "lean 1 when not(not(not(not(not(1<2)))));", 3, 28);
        Due.is("not is open till its C ends", Due.tell(x, LAW,
                "lean 1 when not 1<2 and not not 1<2 or not (not 1<2) and not not not 1<2 and((((((((1<2))))))));"), 1);
        Due.fault(x, LAW, "lean 1 when 1<2 and ((((not((((1<2", 3, 30);
        Due.fault(x, LAW, "lean 1 when ((((((((1<2)and not(", 3, 31);
        Due.fault(x, LAW, "lean 1 when ((((((((1<2 and ;", 1, 28);
    }

    private static void refusesHeeds() {
        MuleVote x = ActsTest.train(3, 2);
        Due.fault(x, HEEDS, "mule 3 heeds 0;", 2, 5);
        Due.fault(x, HEEDS, "mule 0 heeds 3;", 2, 13);
        Due.fault(x, HEEDS, "mule 1 heeds 0 and 1;", 2, 19);
        Due.fault(x, HEEDS, "mule 1 heeds 00001;", 1, 13);
        Due.fault(x, HEEDS, "mule 1 heeds and 0;", 1, 13);
        Due.fault(x, HEEDS, "mule 1 heeds 0 and 2", 1, 20);
        Due.is("one twice", Due.tell(x, HEEDS, "mule 1 heeds 0 and 0;mule 1 heeds 2;"), 2);
        Due.is("of(1, 4)", x.of(1, 4), 5);
        Due.fault(new MuleVote(), HEEDS, "mule 0 heeds 1;", 2, 5);
    }

    private static void refusesPlans() {
        MuleVote x = ActsTest.train(3, 2);
        Due.fault(x, PLANS, "on 1000 vote;", 2, 3);
        Due.fault(x, PLANS, "on 1 salt 2 0;", 2, 10);
        Due.fault(x, PLANS, "on 1 salt 0 3;", 2, 12);
        Due.fault(x, PLANS, "on 1 whip 2 0;", 2, 10);
        Due.fault(x, PLANS, "on 1 whip 0;", 1, 11);
        Due.fault(x, PLANS, "on 1 sing 2;", 2, 10);
        Due.fault(x, PLANS, "on 1 sing 0 0;", 1, 12);
        Due.fault(x, PLANS, "on 1 go 10;", 2, 8);
        Due.fault(x, PLANS, "on 1 go;", 1, 7);
        Due.fault(x, PLANS, "on 1 vote 0;", 1, 10);
        Due.fault(x, PLANS, "on 1 rest;", 1, 5);
        Due.fault(x, PLANS, "on 1 2;", 1, 5);
        Due.fault(new MuleVote(), PLANS, "on 1 sing 0;", 2, 10);
    }

    private static void refusesPathsAndLoads() {
        MuleVote x = new MuleVote();
        Due.fault(x, PATHS, "path 10 1 hours 1;", 2, 5);
        Due.fault(x, PATHS, "path 1 10 hours 1;", 2, 7);
        Due.fault(x, PATHS, "path 1 1 hours 1;", 2, 7);
        Due.fault(x, PATHS, "path 1 2 hours 0;", 2, 15);
        Due.fault(x, PATHS, "path 1 2 hours 25;", 2, 15);
        Due.fault(x, PATHS, "path 1 2 3;", 1, 9);
        Due.fault(x, PATHS, "path 1 2 hours 1", 1, 16);
        Due.fault(x, LOADS, "load 0 worth 1;", 2, 5);
        Due.fault(x, LOADS, "load 41 worth 1;", 2, 5);
        Due.fault(x, LOADS, "load 1 worth 0;", 2, 13);
        Due.fault(x, LOADS, "load 1 worth 100;", 2, 13);
        Due.fault(x, LOADS, "load 1 1;", 1, 7);
    }

    private static void refusesLinesTooMany() {
        MuleVote x = ActsTest.train(3, 2);
        String[] lines = {"need 1;", "mule 0 heeds 1;", "on 1 vote;", "path 1 2 hours 1;", "load 1 worth 1;"};
        for (int k = 0; k < 5; k++) {
            int most = k == LOADS ? 8 : 16;
            String all = lines[k].repeat(most);
            Due.is("text(" + k + ")", Due.tell(x, k, all), most);
            Due.fault(x, k, all + lines[k].substring(0, 4).trim(), 3, all.length());
            Due.fault(x, k, all + "!" + lines[k], 1, all.length());
            Due.fault(x, k, all + ";", 1, all.length());
        }
        Due.is("look(15)", x.look(15), 8);
    }

    private static void followsTheLaw() {
        MuleVote x = new MuleVote();
        x.mule(7, 11);
        x.mule(20, 30);
        x.man(1, 6, 4);
        x.set(0, 0, 3);
        x.days(5);
        Due.tell(x, HEEDS, "mule 1 heeds 0;");
        String facts = "mule*100+age";
        Due.tell(x, LAW, "lean " + facts + "+strong+liking+heeded+hand+songs+snow+hours+day;");
        Due.is("lean", x.of(1, 20), 100 + 30 + 20 + 30 + 0 + 6 + 4 + 3 + 0 + 5);
        Due.tell(x, LAW, "need " + facts + "+strong+liking+heeded+hand+songs+snow+hours+day;");
        Due.is("need", x.of(1, 5), 100 + 30 + 20 + 3 + 5);
        Due.tell(x, LAW, "risk " + facts + "+strong+liking+heeded+hand+songs+snow+hours+day;");
        Due.is("risk without a DRIVER", x.of(1, 37), 100 + 30 + 20 + 3 + 7 + 5);
        x.like(0, 0, 99);
        x.vote();
        Due.is("risk by the DRIVER", x.of(1, 37), 100 + 30 + 20 + 6 + 4 + 3 + 7 + 5);
        Due.tell(x, LAW, "lean heeded*7;");
        Due.is("one that it heeds stands behind him", x.of(1, 20), 7);
        Due.tell(x, LAW, "lean 100-7-3*2+20/3/2*2;");
        Due.is("from the left", x.of(1, 20), 93);
        Due.tell(x, LAW, "lean 500-7/2;need 10-mule*7/2;");
        Due.is("a part first", x.of(0, 20), 497);
        Due.tell(x, LAW, "lean 1 when mule=0;lean 2 when age>30 or age=30 and not strong<21;lean 3 when not(1<2 or 3<2);lean 4;lean 5;");
        Due.is("the first line", x.of(0, 20), 1);
        Due.is("and binds more than or", x.of(1, 20), 4);
        Due.tell(x, LAW, "lean 2 when mule=1 or mule=0 and mule=1;need 5 when 1>2;");
        Due.is("or", x.of(1, 20), 2);
        Due.is("no line that is so: liking and 10 times heeded", x.of(0, 20), 99);
        Due.is("no line that is so: 40", x.of(0, 5), 40);
        Due.is("no line: 20 times snow", x.of(0, 31), 60);
    }

    private static void holdsWhatTheLawTells() {
        MuleVote x = ActsTest.train(1, 1);
        Due.tell(x, LAW, "lean 1000;need 9999;risk 9999;");
        Due.is("lean", x.of(0, 20), 999);
        Due.is("need", x.of(0, 5), 999);
        Due.is("risk", x.of(0, 31), 1000);
        Due.tell(x, LAW, "lean 0-1;need 0-9999;risk 0-1;");
        Due.is("lean", x.of(0, 20), 0);
        Due.is("need", x.of(0, 5), 0);
        Due.is("risk", x.of(0, 31), 0);
        Due.tell(x, LAW, "lean 9999*9999*22;need 0-7*3/2+11;risk 9999*9999*43;");
        Due.is("ints wrap", x.of(0, 20), 0);
        Due.is("need", x.of(0, 5), 1);
        Due.is("ints wrap twice", x.of(0, 31), 1000);
        Due.tell(x, LAW, "need 9999*9999*42/9999+9600;");
        Due.is("a part of a wrapped one goes towards 0", x.of(0, 5), 19);
    }
}
