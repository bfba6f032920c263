/** Promises 12 to 15 at their edges, and what THE LAW tells: a test for each sentence of the document that names one. */
public final class EdgesOfTextsTest {
    private static final int LAW = 0;
    private static final int HEEDS = 1;
    private static final int PLANS = 2;
    private static final int PATHS = 3;
    private static final int LOADS = 4;
    private static final int LEAST = Integer.MIN_VALUE;
    private static final int MOST = Integer.MAX_VALUE;

    public static void main(String[] args) {
        twentyBytesTheHighestFirst();
        atMost400Bytes();
        endsWithinTheTape();
        textsAre0To4();
        theTapeIsEmptyInEachCase();
        aFaultLeavesTheTextAsItWas();
        nothingOfAFormerTextStays();
        faultTellsOfTheLatestText();
        blanksBetween();
        lettersAsManyAsStandTogether();
        digitsAsManyAsStandTogether();
        signsThatCantStand();
        theEndIsTheTextsLength();
        theFirstByItsPlace();
        atOnePlaceTheLeast();
        linesAre16AtMost();
        loadsAre8AtMost();
        eightAreOpenAtMost();
        aNotIsOpenTillItsConditionEnds();
        partsBy0();
        mulesThatThereAre();
        menThatThereAre();
        campsThatThereAre();
        daysHoursLoadsAndWorth();
        notItself();
        theFirstLineOfAPathCounts();
        leadsByTheFirstLineThatIsSo();
        tellsWithoutALine();
        holdsWhatItTells();
        wrapsAndGoesTowards0();
        comparesAtTheEdge();
        bindsAsItIsTold();
        tellsOfEachWhatItKnows();
        Due.end("EdgesOfTextsTest");
    }

    private static MuleVote train(int mules, int men) {
        return ActsTest.train(mules, men);
    }

    private static void good(MuleVote x, int k, String text, int lines) {
        Due.is("14: text(" + k + ") of '" + text + "'", Due.tell(x, k, text), lines);
        Due.is("15: no FAULT in '" + text + "'", x.fault(0), 0);
        Due.is("15: no place in '" + text + "'", x.fault(1), -1);
        Due.is("36: lines of '" + text + "'", x.look(11 + k), lines);
    }

    /** "Twenty bytes come behind the TAPE, of each number the highest first: how many it has." */
    private static void twentyBytesTheHighestFirst() {
        MuleVote x = new MuleVote();
        Due.is("12: feed", x.feed(0x6c6f6164, 0x20343020, 0x776f7274, 0x6820393b, 0x20202020), 20);
        Due.is("12: feed once more", x.feed(0x6c6f6164, 0x20303120, 0x776f7274, 0x6820313b, 0x0a0a0a0a), 40);
        Due.is("14: both lines", x.text(LOADS), 2);
        x.mule(40, 0);
        Due.is("26: the first one", x.packs(1), 1);
        Due.is("26: its worth", x.packs(0), 9);
        Due.is("12: bytes above 127", x.feed(0x80ff00ff, -1, LEAST, MOST, 0), 20);
        Due.is("14: can't stand", x.text(LAW), -1);
        Due.is("15: at the first", x.fault(1), 0);
    }

    /** "NONE, and nothing comes, if there would be more than 400." */
    private static void atMost400Bytes() {
        for (int had : new int[] {0, 379, 380, 381, 399, 400}) {
            MuleVote x = new MuleVote();
            for (int i = 0; i < 20; i++) {
                x.feed(0x20202020, 0x20202020, 0x20202020, 0x20202020, 0x20202020);
            }
            Due.is("12: more than 400", x.feed(0, 0, 0, 0, 0), -1);
            Due.is("13: end(" + had + ")", x.end(had), true);
            Due.is("12: feed behind " + had, x.feed(0, 0, 0, 0, 0), had <= 380 ? had + 20 : -1);
            Due.is("13: it has so many", x.end(had <= 380 ? had + 20 : had), true);
            Due.is("13: and no more", x.end(had <= 380 ? had + 21 : had + 1), false);
            Due.is("14: nothing else came", x.text(LAW), had <= 380 ? -1 : 0);
            Due.is("15: its place", x.fault(1), had <= 380 ? had : -1);
        }
    }

    /** "true; false, changing nothing, if it has not so many, or n is below 0" */
    private static void endsWithinTheTape() {
        MuleVote x = new MuleVote();
        Due.is("13: none of none", x.end(0), true);
        Due.is("13: one of none", x.end(1), false);
        Due.feed(x, "need 5;need 6; ");
        for (int n : new int[] {LEAST, -1, 16, 400, 401, MOST}) {
            Due.is("13: end(" + n + ")", x.end(n), false);
        }
        Due.is("13: all", x.end(15), true);
        Due.is("13: all but one", x.end(14), true);
        Due.is("13: what was cut is gone", x.end(15), false);
        Due.is("14: two lines", x.text(LAW), 2);
        Due.feed(x, "need 5;need 6;");
        Due.is("13: the first alone", x.end(7), true);
        Due.feed(x, "lean 1;");
        Due.is("14: new ones come behind it", x.text(LAW), 2);
        Due.feed(x, "need 5;");
        Due.is("13: end(0)", x.end(0), true);
        Due.is("14: nothing is left", x.text(LAW), 0);
    }

    /** "NONE: no such one (fault() tells 0)" */
    private static void textsAre0To4() {
        for (int k : new int[] {LEAST, -1, 5, 6, MOST}) {
            MuleVote x = new MuleVote();
            Due.fault(x, LAW, "lean", 1, 4);
            Due.feed(x, "lean");
            Due.is("14: text(" + k + ")", x.text(k), -1);
            Due.is("15: fault(0)", x.fault(0), 0);
            Due.is("15: fault(1)", x.fault(1), -1);
            Due.is("13: the TAPE is empty", x.end(1), false);
            for (int what = 11; what <= 15; what++) {
                Due.is("36: look(" + what + ")", x.look(what), 0);
            }
        }
    }

    /** "(.. the TAPE is empty in each case)" "The TAPE, empty then, is TEXT k" */
    private static void theTapeIsEmptyInEachCase() {
        for (int k = 0; k < 5; k++) {
            MuleVote x = train(3, 2);
            Due.feed(x, "!");
            x.text(k);
            Due.is("13: after a FAULT", x.end(1), false);
            Due.feed(x, new String[] {"need 1;", "mule 1 heeds 0;", "on 0 vote;", "path 0 1 hours 1;", "load 1 worth 1;"}[k]);
            Due.is("14: text(" + k + ")", x.text(k), 1);
            Due.is("13: after a good one", x.end(1), false);
            Due.is("14: an empty TAPE is an empty TEXT", x.text(k), 0);
            Due.is("36: look", x.look(11 + k), 0);
        }
    }

    /** "or a FAULT (the TEXT stays as it was ..)", wherever the FAULT is. */
    private static void aFaultLeavesTheTextAsItWas() {
        String[] good = {"need 7;", "mule 1 heeds 0;", "on 0 sing 0;", "path 0 1 hours 9;", "load 1 worth 5;"};
        String[] bad = {"need 8;need 9", "mule 1 heeds 2;mule 1 heeds", "on 0 vote;on 0 vote", "path 0 1 hours 3;path", "load 1 worth 6;load"};
        MuleVote x = train(3, 2);
        for (int k = 0; k < 5; k++) {
            good(x, k, good[k], 1);
            Due.fault(x, k, bad[k], 1, bad[k].length());
            Due.is("36: lines", x.look(11 + k), 1);
        }
        Due.is("16: need", x.of(0, 5), 7);
        Due.is("16: whom it heeds", x.of(1, 4), 1);
        Due.is("18: path", x.path(0, 1), 9);
        Due.is("26: packs", x.packs(0), 5);
        Due.is("11: days", x.days(1), 1);
        Due.is("11: the song", x.of(0, 10), 34);
    }

    /** A TEXT is the TAPE, and nothing of the TEXT before, be that longer. */
    private static void nothingOfAFormerTextStays() {
        MuleVote x = train(3, 1);
        good(x, LAW, "lean 1;need 2;risk 3;", 3);
        good(x, LAW, "lean 5;", 1);
        Due.is("16: need", x.of(0, 5), 40);
        Due.is("16: risk", x.of(0, 31), 0);
        good(x, LAW, "need 6;", 1);
        Due.is("16: lean", x.of(0, 20), 30);
        good(x, LAW, "", 0);
        Due.is("16: need", x.of(0, 5), 40);
        good(x, HEEDS, "mule 0 heeds 1;mule 1 heeds 2;", 2);
        good(x, HEEDS, "mule 0 heeds 2;", 1);
        Due.is("16: heeds", x.of(1, 4), 0);
        Due.is("16: heeds", x.of(0, 4), 4);
        good(x, HEEDS, "", 0);
        Due.is("16: heeds", x.of(0, 4), 0);
        good(x, PATHS, "path 0 1 hours 1;path 1 2 hours 2;", 2);
        good(x, PATHS, "path 3 4 hours 1;", 1);
        Due.is("18: path", x.path(1, 2), -1);
        Due.is("18: path", x.path(0, 1), -1);
        good(x, PATHS, "", 0);
        Due.is("18: path", x.path(3, 4), -1);
        Due.is("25: way", x.way(3, 4, 0), -1);
        Due.is("33: meets", x.meets(3, 4), -1);
        good(x, PLANS, "on 0 sing 0;on 0 vote;on 1 sing 0;", 3);
        good(x, PLANS, "on 1 vote;", 1);
        Due.is("11: days", x.days(1), 0);
        good(x, PLANS, "", 0);
        Due.is("11: days", x.days(1), 0);
        good(x, LOADS, "load 1 worth 1;load 1 worth 1;load 1 worth 1;", 3);
        Due.is("26: packs", x.packs(1), 7);
        good(x, LOADS, "load 40 worth 99;", 1);
        Due.is("26: packs", x.packs(0), 0);
        Due.is("26: packs", x.packs(1), 0);
        good(x, LOADS, "load 1 worth 2;", 1);
        Due.is("26: packs", x.packs(1), 1);
        good(x, LOADS, "", 0);
        Due.is("26: packs", x.packs(0), 0);
    }

    /** "Of the latest text(): what 0 the FAULT (0 without one), 1 its place (NONE). NONE for another what." */
    private static void faultTellsOfTheLatestText() {
        MuleVote x = new MuleVote();
        Due.is("15: without any", x.fault(0), 0);
        Due.is("15: without any", x.fault(1), -1);
        Due.fault(x, LAW, "lean 1/0;", 2, 7);
        for (int what : new int[] {LEAST, -1, 2, 3, MOST}) {
            Due.is("15: fault(" + what + ")", x.fault(what), -1);
        }
        x.feed(0, 0, 0, 0, 0);
        x.end(3);
        x.vote();
        x.undo();
        x.image(true);
        x.image(false);
        Due.is("15: it stays", x.fault(0), 2);
        Due.is("15: it stays", x.fault(1), 7);
        Due.fault(x, PATHS, "path", 1, 4);
        x.end(0);
        Due.is("14: a good one", x.text(PATHS), 0);
        Due.is("15: none any more", x.fault(0), 0);
        Due.is("15: none any more", x.fault(1), -1);
    }

    /** "Blanks (32, 10) between." */
    private static void blanksBetween() {
        MuleVote x = train(3, 2);
        good(x, LAW, "  \n\n need\n\n5 ;\n \n", 1);
        good(x, LAW, " ", 0);
        good(x, LAW, "\n", 0);
        good(x, LAW, "need5when1<2and2>1or(not3=3);", 1);
        good(x, HEEDS, "\nmule\n0\nheeds\n1\nand\n2\n;", 1);
        good(x, PLANS, "on5go9;on5salt1 2;", 2);
        good(x, PATHS, "path0 9hours24;", 1);
        good(x, LOADS, "load40worth99;", 1);
        for (char c : new char[] {0, 9, 11, 12, 13, 31, 33, 127, 128, 160, 255}) {
            Due.fault(x, LAW, "need" + c + "5;", 1, 4);
            Due.fault(x, LAW, "need 5;" + c, 1, 7);
            Due.fault(x, LAW, c + "need 5;", 1, 0);
        }
    }

    /** "letters as many as stand together are KEYWORDS (those told here for that text) or none" */
    private static void lettersAsManyAsStandTogether() {
        MuleVote x = train(3, 2);
        for (String word : new String[] {"lea", "leanlean", "leana", "leanz", "Lean", "LEAN", "lEAN", "zlean", "alean", "Zlean"}) {
            Due.fault(x, LAW, word + " 5;", 1, 0);
        }
        String[] facts = {"mule", "age", "strong", "liking", "heeded", "hand", "songs", "snow", "hours", "day"};
        for (String fact : facts) {
            good(x, LAW, "lean " + fact + "+" + fact + ";", 1);
            Due.fault(x, LAW, "lean " + fact + "s;", 1, 5);
            Due.fault(x, LAW, "lean " + fact.substring(1) + ";", 1, 5);
            Due.fault(x, LAW, "lean " + fact + " " + fact + ";", 1, 6 + fact.length());
        }
        String[] others = {"heeds", "on", "salt", "sing", "whip", "vote", "go", "path", "load", "worth", "lean", "need", "risk", "when", "not"};
        for (String word : others) {
            Due.fault(x, LAW, "lean " + word + ";", 1, 5);
        }
        Due.fault(x, LAW, "mule 0 heeds 1;", 1, 0);
        Due.fault(x, HEEDS, "lean 5;", 1, 0);
        Due.fault(x, HEEDS, "mule 0 heed 1;", 1, 7);
        Due.fault(x, HEEDS, "mule 0 heeds 1 or 2;", 1, 15);
        Due.fault(x, PLANS, "path 0 1 hours 2;", 1, 0);
        Due.fault(x, PLANS, "on 5 votes;", 1, 5);
        Due.fault(x, PATHS, "load 1 worth 1;", 1, 0);
        Due.fault(x, PATHS, "path 0 1 hour 2;", 1, 9);
        Due.fault(x, LOADS, "on 5 vote;", 1, 0);
        Due.fault(x, LOADS, "load 1 worths 2;", 1, 7);
        Due.fault(x, LOADS, "loadworth 1;", 1, 0);
    }

    /** "digits as many as stand together NUMBERS of 1 to 4 digits or none" */
    private static void digitsAsManyAsStandTogether() {
        MuleVote x = train(3, 2);
        good(x, LAW, "need 1;", 1);
        good(x, LAW, "need 0001;", 1);
        Due.is("16: need", x.of(0, 5), 1);
        good(x, LAW, "need 9999/100;", 1);
        Due.is("16: need", x.of(0, 5), 99);
        good(x, LAW, "need 5-0000;", 1);
        Due.is("16: need", x.of(0, 5), 5);
        Due.fault(x, LAW, "need 00001;", 1, 5);
        Due.fault(x, LAW, "need 10000;", 1, 5);
        Due.fault(x, LAW, "need 1/00001;", 1, 7);
        Due.fault(x, LAW, "need 1/00000;", 1, 7);
        Due.fault(x, LAW, "need 1 1;", 1, 7);
        Due.fault(x, LAW, "need 99999999999999999999;", 1, 5);
        Due.fault(x, LAW, "need 4294967297;", 1, 5);
        good(x, HEEDS, "mule 0002 heeds 0001;", 1);
        Due.fault(x, HEEDS, "mule 00002 heeds 1;", 1, 5);
        Due.fault(x, PLANS, "on 00001 vote;", 1, 3);
        Due.fault(x, PATHS, "path 0 00001 hours 1;", 1, 7);
        Due.fault(x, LOADS, "load 1 worth 00001;", 1, 13);
        good(x, LAW, "need 9999*1/9999;", 1);
        Due.is("16: a part by 9999", x.of(0, 5), 1);
    }

    /** "; + - * / ( ) < = > ." "1 what can't stand there" */
    private static void signsThatCantStand() {
        MuleVote x = train(3, 2);
        for (char c = 33; c < 127; c++) {
            boolean isMore = c == '+' || c == '-' || c == '*';
            if (c == ';') {
                good(x, LAW, "need 5" + c, 1);
            } else if (isMore || c == '/') {
                Due.fault(x, LAW, "need 5" + c + ";", 1, 7);
            } else if (!(c >= '0' && c <= '9')) {
                Due.fault(x, LAW, "need 5" + c + ";", 1, 6);
            }
        }
        for (String sign : new String[] {";", "+", "-", "*", "/", "(", ")", "<", "=", ">", ".", ",", ":"}) {
            Due.fault(x, LAW, "need " + sign + "5;", 1, 5);
            Due.fault(x, LAW, sign + "need 5;", 1, 0);
            Due.fault(x, HEEDS, "mule " + sign + "0 heeds 1;", 1, 5);
            Due.fault(x, PLANS, "on 0 " + sign + "vote;", 1, 5);
            Due.fault(x, PATHS, "path 0 " + sign + "1 hours 1;", 1, 7);
            Due.fault(x, LOADS, "load 1 worth" + sign + "1;", 1, 12);
        }
        Due.fault(x, LAW, "need 5 when 1=>2;", 1, 14);
        Due.fault(x, LAW, "need 5 when 1<=2;", 1, 14);
        Due.fault(x, LAW, "need 5 when 1==2;", 1, 14);
        Due.fault(x, LAW, "need 5 when 1;", 1, 13);
        Due.fault(x, LAW, "need 5 when (1);", 1, 14);
        Due.fault(x, LAW, "need 5 when (1+1)=2;", 1, 16);
        Due.fault(x, LAW, "need 5 when not not;", 1, 19);
        Due.fault(x, LAW, "need 5 when 1=1 not 1=1;", 1, 16);
        Due.fault(x, LAW, "need 5 when 1=1 (1=1);", 1, 16);
        Due.fault(x, LAW, "need 5 when (1=1)(1=1);", 1, 17);
        Due.fault(x, LAW, "need 5 when (1=1))", 1, 17);
        Due.fault(x, LAW, "need 5 when (1=1) + 1;", 1, 18);
        Due.fault(x, LAW, "need 5 when (1=1;", 1, 16);
        Due.fault(x, LAW, "need 5 when (1=1) and;", 1, 21);
        Due.fault(x, LAW, "need 5 when 1=1 or or 1=1;", 1, 19);
        Due.fault(x, LAW, "need 5 and 1=1;", 1, 7);
        Due.fault(x, LAW, "need 5 or 1=1;", 1, 7);
        Due.fault(x, LAW, "need;", 1, 4);
        Due.fault(x, LAW, "need when 1=1;", 1, 5);
        Due.fault(x, HEEDS, "mule 0 heeds 1;;", 1, 15);
        Due.fault(x, HEEDS, "mule 0 heeds;", 1, 12);
        Due.fault(x, PLANS, "on 0 ;", 1, 5);
        Due.fault(x, PLANS, "on 0 sing;", 1, 9);
        Due.fault(x, PLANS, "on 0 salt;", 1, 9);
        Due.fault(x, PLANS, "on 0 whip 0 0 0;", 1, 14);
        Due.fault(x, PLANS, "on 0 go 1 2;", 1, 10);
        Due.fault(x, PATHS, "path 0 1;", 1, 8);
        Due.fault(x, PATHS, "path 0;", 1, 6);
        Due.fault(x, PATHS, "path 0 1 hours 5 6;", 1, 17);
        Due.fault(x, LOADS, "load worth 5;", 1, 5);
        Due.fault(x, LOADS, "load 5;", 1, 6);
    }

    /** "(the end: the text's length)" */
    private static void theEndIsTheTextsLength() {
        String[] whole = {"need 5 + 1 * 2 / 3 when not ( 1 < 2 ) and 3 > 4 or 5 = 6 ;", "mule 0 heeds 1 and 2 ;",
            "on 5 salt 1 2 ;", "path 0 1 hours 2 ;", "load 5 worth 6 ;"};
        MuleVote x = train(3, 2);
        for (int k = 0; k < 5; k++) {
            String[] words = whole[k].split(" ");
            StringBuilder s = new StringBuilder();
            for (int i = 0; i < words.length - 1; i++) {
                s.append(words[i]);
                Due.fault(x, k, s.toString(), 1, s.length());
                s.append(' ');
                Due.fault(x, k, s.toString(), 1, s.length());
            }
            good(x, k, whole[k], 1);
        }
        StringBuilder s = new StringBuilder("need 5");
        while (s.length() < 400) {
            s.append(s.length() % 3 == 0 ? '\n' : ' ');
        }
        Due.fault(x, LAW, s.toString(), 1, 400);
        s.setCharAt(399, ';');
        good(x, LAW, s.toString(), 1);
        s.setCharAt(399, '!');
        Due.fault(x, LAW, s.toString(), 1, 399);
        s.setLength(0);
        s.append("need 1");
        while (s.length() < 398) {
            s.append("+1");
        }
        good(x, LAW, s + ";", 1);
        Due.is("16: 197 ones", x.of(0, 5), 197);
        Due.fault(x, LAW, s + "+1", 1, 400);
    }

    /** "FAULTS, the first by its place" */
    private static void theFirstByItsPlace() {
        MuleVote x = train(3, 2);
        Due.fault(x, LAW, "need 1/0/0;!", 2, 7);
        Due.fault(x, LAW, "need ! 1/0;", 1, 5);
        Due.fault(x, HEEDS, "mule 9 heeds 9;", 2, 5);
        Due.fault(x, HEEDS, "mule 0 heeds 0 and 9;", 2, 13);
        Due.fault(x, HEEDS, "mule 9 !", 2, 5);
        Due.fault(x, PLANS, "on 1000 salt 9 9;", 2, 3);
        Due.fault(x, PLANS, "on 1 salt 9 9!", 2, 10);
        Due.fault(x, PATHS, "path 10 10 hours 99;", 2, 5);
        Due.fault(x, PATHS, "path 1 1 hours 99;", 2, 7);
        Due.fault(x, LOADS, "load 0 worth 0!", 2, 5);
        Due.fault(x, LAW, "need 5;".repeat(16) + "need 1/0;", 3, 112);
        Due.fault(x, LAW, "need 5;".repeat(15) + "need 1/0;need 5;", 2, 112);
        Due.fault(x, LAW, "need 1/0 when " + "(".repeat(9), 2, 7);
    }

    /** "at one place the least" */
    private static void atOnePlaceTheLeast() {
        MuleVote x = train(3, 2);
        String[] lines = {"need 5;", "mule 0 heeds 1;", "on 5 vote;", "path 0 1 hours 2;", "load 5 worth 6;"};
        for (int k = 0; k < 5; k++) {
            String full = lines[k].repeat(k == LOADS ? 8 : 16);
            for (String word : new String[] {"!", ";", "5", "when", "needs", "mules", "onn", "paths", "loads"}) {
                Due.fault(x, k, full + word, 1, full.length());
            }
        }
        Due.fault(x, LAW, "need 5 when ((((((((1<(", 1, 22);
        Due.fault(x, LAW, "need 5 when ((((((((1<not", 1, 22);
        Due.fault(x, LAW, "need 5 when ((((((((1<2 (", 1, 24);
        Due.fault(x, HEEDS, "mule 0 heeds 00000;", 1, 13);
    }

    /** "16 lines of each at most" "3 (at its KEYWORD) the 17th line of a text" */
    private static void linesAre16AtMost() {
        MuleVote x = train(3, 2);
        String[] lines = {"need 5;", "mule 0 heeds 1;", "on 5 vote;", "path 0 1 hours 2;"};
        String[] words = {"lean", "mule", "on", "path"};
        for (int k = 0; k < 4; k++) {
            good(x, k, lines[k].repeat(15), 15);
            good(x, k, lines[k].repeat(16), 16);
            Due.fault(x, k, lines[k].repeat(17), 3, 16 * lines[k].length());
            Due.fault(x, k, lines[k].repeat(16) + " \n " + words[k], 3, 16 * lines[k].length() + 3);
            Due.fault(x, k, lines[k].repeat(18), 3, 16 * lines[k].length());
            Due.is("36: it stays", x.look(11 + k), 16);
        }
        Due.fault(x, LAW, "need 5;".repeat(16) + "risk", 3, 112);
        good(x, LAW, "need 5;" + "lean 5;".repeat(14) + "risk 7;", 16);
        Due.is("16: the 16th line tells", x.of(0, 31), 7);
        good(x, HEEDS, "mule 0 heeds 1;".repeat(15) + "mule 2 heeds 1;", 16);
        Due.is("16: the 16th line tells", x.of(2, 4), 2);
        good(x, PATHS, "path 0 1 hours 2;".repeat(15) + "path 8 9 hours 24;", 16);
        Due.is("18: the 16th line tells", x.path(8, 9), 24);
        good(x, PLANS, "on 5 vote;".repeat(15) + "on 0 sing 0;", 16);
        Due.is("11: the 16th line tells", x.days(1), 1);
        x.days(4);
        Due.is("11: fifteen VOTES on one DAY", x.days(1), 15);
    }

    /** "8 at most" "the 9th LOAD" */
    private static void loadsAre8AtMost() {
        MuleVote x = train(12, 2);
        good(x, LOADS, "load 5 worth 6;".repeat(7), 7);
        good(x, LOADS, "load 5 worth 6;".repeat(8), 8);
        Due.fault(x, LOADS, "load 5 worth 6;".repeat(9), 3, 120);
        Due.fault(x, LOADS, "load 5 worth 6;".repeat(8) + "\nload", 3, 121);
        Due.is("36: it stays", x.look(15), 8);
        good(x, LOADS, "load 40 worth 99;".repeat(7) + "load 10 worth 1;", 8);
        Due.is("26: the 8th one", x.packs(1), 128);
    }

    /** "3 .. (at it) the 9th ( or not that is open" */
    private static void eightAreOpenAtMost() {
        MuleVote x = train(3, 2);
        String[] opens = {"(", "not "};
        for (int set = 0; set < 512; set++) {
            StringBuilder s = new StringBuilder("need 5 when ");
            StringBuilder closing = new StringBuilder();
            int ninth = 0;
            for (int i = 0; i < 9; i++) {
                ninth = s.length();
                s.append(opens[set >> i & 1]);
                closing.append((set >> i & 1) == 0 && i < 8 ? ")" : "");
            }
            Due.fault(x, LAW, s + "1<2", 3, ninth);
            if (set < 256) {
                good(x, LAW, s.substring(0, ninth) + "1<2" + closing + ";", 1);
            }
        }
    }

    /** What was open and is not any more does not count. */
    private static void aNotIsOpenTillItsConditionEnds() {
        MuleVote x = train(3, 2);
        good(x, LAW, "need 5 when " + "not 1<2 and ".repeat(12) + "1<2;", 1);
        good(x, LAW, "need 5 when " + "not 1<2 or ".repeat(12) + "1<2;", 1);
        good(x, LAW, "need 5 when " + "(1<2) and ".repeat(12) + "1<2;", 1);
        good(x, LAW, "need 5 when " + "(not 1<2) or ".repeat(12) + "1<2;", 1);
        good(x, LAW, "need 5 when " + "not (1<2) or ".repeat(12) + "1<2;", 1);
        good(x, LAW, "need 5 when (((((((not 1<2 and not 1<2 or not 1<2)))))));", 1);
        good(x, LAW, "need 5 when (((((((not 1<2) and not 1<2) or not 1<2)))));", 1);
        good(x, LAW, "need 5 when not(((((((1<2)))))))and not(((((((1<2)))))));", 1);
        good(x, LAW, "need 5 when not not not not not not not not 1<2 or not not not not not not not not 1<2;", 1);
        good(x, LAW, "need 5 when not not not not 1<2;need 6 when not not not not not not not not 1<2;", 2);
        Due.fault(x, LAW, "need 5 when not(((((((1<2 and not", 3, 30);
        Due.fault(x, LAW, "need 5 when not(((((((1<2) and ((", 3, 32);
        Due.fault(x, LAW, "need 5 when (((((((not 1<2 and not not", 3, 35);
        good(x, LAW, "need 5 when ((((((((1<2 or 1<2) and 1<2)))))));need 5 when 1<2;", 2);
    }

    /** "2 (at the NUMBER) a part by 0" */
    private static void partsBy0() {
        MuleVote x = train(3, 2);
        Due.fault(x, LAW, "need 5/0;", 2, 7);
        Due.fault(x, LAW, "need 5/ 0000;", 2, 8);
        Due.fault(x, LAW, "need 5*2/3/0*age;", 2, 11);
        Due.fault(x, LAW, "need 5 when 1<5/0;", 2, 16);
        Due.fault(x, LAW, "need 5;lean 5/1/0", 2, 16);
        good(x, LAW, "need 5/1;", 1);
        good(x, LAW, "need 0/5;", 1);
        Due.is("16: need", x.of(0, 5), 0);
    }

    /** "a MULE .. that there is not" */
    private static void mulesThatThereAre() {
        for (int mules : new int[] {0, 1, 2, 11, 12}) {
            MuleVote x = train(mules, 1);
            Due.fault(x, HEEDS, "mule " + mules + " heeds 0;", 2, 5);
            Due.fault(x, HEEDS, "mule 9999 heeds 0;", 2, 5);
            Due.fault(x, PLANS, "on 0 salt 0 " + mules + ";", 2, 12);
            Due.fault(x, PLANS, "on 0 whip 0 " + mules + ";", 2, 12);
            if (mules > 1) {
                Due.fault(x, HEEDS, "mule 0 heeds " + mules + ";", 2, 13);
                good(x, HEEDS, "mule " + (mules - 1) + " heeds 0;mule 0 heeds " + (mules - 1) + ";", 2);
                Due.is("16: of(0, 4)", x.of(0, 4), 1 << mules - 1);
                good(x, PLANS, "on 0 salt 0 " + (mules - 1) + ";on 0 whip 0 " + (mules - 1) + ";", 2);
            }
        }
        MuleVote x = train(12, 0);
        good(x, HEEDS, "mule 0 heeds 1 and 2 and 3 and 4 and 5 and 6 and 7 and 8 and 9 and 10 and 11;", 1);
        Due.is("16: all others", x.of(0, 4), 4094);
        x = train(2, 1);
        Due.fault(x, HEEDS, "mule 0 heeds 2;", 2, 13);
        x.mule(1, 1);
        good(x, HEEDS, "mule 0 heeds 2;", 1);
    }

    /** "a MAN that there is not" */
    private static void menThatThereAre() {
        for (int men = 0; men <= 5; men++) {
            MuleVote x = train(1, men);
            for (String word : new String[] {"salt", "sing", "whip"}) {
                Due.fault(x, PLANS, "on 0 " + word + " " + men + " 0;", 2, 10);
            }
            if (men > 0) {
                int last = men - 1;
                good(x, PLANS, "on 0 salt " + last + " 0;on 0 sing " + last + ";on 0 whip " + last + " 0;", 3);
                Due.is("11: all three", x.days(1), 3);
            }
        }
    }

    /** "CAMPS 0 .. 9" "one beyond its bounds" */
    private static void campsThatThereAre() {
        MuleVote x = train(1, 1);
        good(x, PATHS, "path 0 9 hours 1;path 9 0 hours 1;", 2);
        Due.fault(x, PATHS, "path 10 0 hours 1;", 2, 5);
        Due.fault(x, PATHS, "path 0 10 hours 1;", 2, 7);
        good(x, PLANS, "on 0 go 0;on 0 go 9;", 2);
        Due.fault(x, PLANS, "on 0 go 10;", 2, 8);
    }

    /** "(DAY 0 .. 999.)" "1 .. 24" "(N 1 .. 40, worth 1 .. 99 ..)" */
    private static void daysHoursLoadsAndWorth() {
        MuleVote x = train(1, 1);
        good(x, PLANS, "on 0 vote;on 999 vote;", 2);
        Due.fault(x, PLANS, "on 1000 vote;", 2, 3);
        Due.fault(x, PLANS, "on 9999 vote;", 2, 3);
        good(x, PATHS, "path 0 1 hours 1;path 1 0 hours 24;", 2);
        Due.is("18: path", x.path(0, 1), 1);
        Due.is("18: path", x.path(1, 0), 24);
        Due.fault(x, PATHS, "path 0 1 hours 0;", 2, 15);
        Due.fault(x, PATHS, "path 0 1 hours 25;", 2, 15);
        good(x, LOADS, "load 1 worth 1;load 40 worth 99;", 2);
        Due.fault(x, LOADS, "load 0 worth 1;", 2, 5);
        Due.fault(x, LOADS, "load 41 worth 1;", 2, 5);
        Due.fault(x, LOADS, "load 1 worth 0;", 2, 13);
        Due.fault(x, LOADS, "load 1 worth 100;", 2, 13);
    }

    /** "the same one again (of HEEDS: itself; of PATHS: the same CAMP)" */
    private static void notItself() {
        MuleVote x = train(12, 2);
        for (int i = 0; i < 10; i++) {
            Due.fault(x, HEEDS, "mule " + i + " heeds " + i + ";", 2, 13);
            Due.fault(x, PATHS, "path " + i + " " + i + " hours 1;", 2, 7);
        }
        Due.fault(x, HEEDS, "mule 11 heeds 11;", 2, 14);
        Due.fault(x, HEEDS, "mule 1 heeds 01;", 2, 13);
        Due.fault(x, PATHS, "path 1 01 hours 1;", 2, 7);
        Due.fault(x, HEEDS, "mule 1 heeds 0 and 2 and 1;", 2, 25);
        Due.fault(x, HEEDS, "mule 0 heeds 1;mule 1 heeds 1;", 2, 28);
        good(x, HEEDS, "mule 0 heeds 1;mule 1 heeds 0;", 2);
        good(x, PLANS, "on 0 salt 1 1;on 0 whip 0 0;", 2);
    }

    /** "of several from one CAMP to another one the first line alone counts" */
    private static void theFirstLineOfAPathCounts() {
        MuleVote x = train(1, 1);
        good(x, PATHS, "path 0 1 hours 24;path 0 1 hours 1;path 1 0 hours 3;path 0 1 hours 2;", 4);
        Due.is("18: path(0, 1)", x.path(0, 1), 24);
        Due.is("25: way(0, 1, 0)", x.way(0, 1, 0), 24);
        Due.tell(x, LAW, "lean 99;risk hours;");
        Due.is("25: SUREST", x.way(0, 1, 2), 24);
        x.vote();
        x.go(1);
        Due.is("36: HOURS", x.look(7), 24);
        Due.is("18: one way", x.path(1, 0), 3);
    }

    /** "E of the first line with that word whose B is so, or that has none" */
    private static void leadsByTheFirstLineThatIsSo() {
        MuleVote x = train(3, 1);
        good(x, LAW, "risk 9;need 1 when mule=0;need 2 when mule=0;need 3 when mule=1;need 4;need 5 when mule=2;need 6;lean 9;", 8);
        Due.is("16: the first of two that are so", x.of(0, 5), 1);
        Due.is("16: one that is so", x.of(1, 5), 3);
        Due.is("16: one that has none", x.of(2, 5), 4);
        good(x, LAW, "need 4;need 1 when mule=0;", 2);
        Due.is("16: one that has none comes first", x.of(0, 5), 4);
    }

    /** "(none: lean: liking and 10 times heeded, need 40, risk: 20 times snow)" */
    private static void tellsWithoutALine() {
        MuleVote x = train(12, 1);
        good(x, LAW, "need 1 when 1>1;lean 1 when 1>1;risk 1 when 1>1;", 3);
        Due.is("16: need", x.of(11, 5), 40);
        Due.is("16: lean", x.of(11, 20), 30);
        Due.is("16: risk", x.of(11, 54), 0);
        x.set(0, 0, 1);
        Due.is("16: risk in SNOW 1", x.of(11, 31), 20);
        x.set(0, 0, 9);
        Due.is("16: risk in SNOW 9", x.of(11, 54), 180);
        good(x, HEEDS, "mule 0 heeds 1 and 2 and 3 and 4 and 5 and 6 and 7 and 8 and 9 and 10 and 11;", 1);
        for (int m = 1; m < 12; m++) {
            x.like(m, 0, 99);
        }
        x.like(0, 0, 99);
        x.vote();
        Due.is("16: 99 and eleven that it heeds", x.of(0, 20), 209);
        good(x, LAW, "need 0;", 1);
        Due.is("16: a line of another word", x.of(0, 20), 209);
    }

    /** "lean, need held to 0 .. 999, risk to 0 .. 1000" */
    private static void holdsWhatItTells() {
        int[][] dues = {{-1, 0, 0}, {0, 0, 0}, {1, 1, 1}, {998, 998, 998}, {999, 999, 999}, {1000, 999, 1000}, {1001, 999, 1000}, {9999, 999, 1000}, {-9999, 0, 0}};
        for (int[] d : dues) {
            String e = d[0] < 0 ? "0-" + -d[0] : "" + d[0];
            MuleVote x = train(1, 1);
            good(x, LAW, "lean " + e + ";need " + e + ";risk " + e + ";", 3);
            Due.is("16: lean " + e, x.of(0, 20), d[1]);
            Due.is("16: need " + e, x.of(0, 5), d[1]);
            Due.is("16: risk " + e, x.of(0, 31), d[2]);
        }
    }

    private static void need(String e, long due) {
        MuleVote x = new MuleVote();
        x.mule(1, 2);
        good(x, LAW, "need " + e + ";", 1);
        Due.is("16: need " + e, x.of(0, 5), Math.max(0, Math.min(999, due)));
    }

    /** "Ints, which wrap; / goes towards 0." */
    private static void wrapsAndGoesTowards0() {
        need("9999*9999*22", 0);
        need("9999*9999*43", 999);
        int wrapped = 9999 * 9999 * 9999;
        need("9999*9999*9999/9999/99", wrapped / 9999 / 99);
        need("0-9999*9999*9999/9999/99", -(wrapped / 9999 / 99));
        need("7/2", 3);
        need("7/1", 7);
        need("7/7", 1);
        need("7/8", 0);
        need("10+0*age-7/2", 7);
        need("10+age*9999*9999*22/9999/9999", 10 + 2 * 9999 * 9999 * 22 / 9999 / 9999);
        need("100-1*9999*9999*15/9999/9999", 100 - 9999 * 9999 * 15 / 9999 / 9999);
        MuleVote x = new MuleVote();
        x.mule(1, 2);
        good(x, LAW, "need 500 when 0-7<0-6 and 0-1<0;need 1;", 2);
        Due.is("16: below 0", x.of(0, 5), 500);
        good(x, LAW, "need 500 when 9999*9999*22<0;need 1;", 2);
        Due.is("16: wrapped below 0", x.of(0, 5), 500);
        good(x, LAW, "need 500 when 9999*9999*22-9999*9999*21-9999*9999=0;need 1;", 2);
        Due.is("16: and back", x.of(0, 5), 500);
    }

    /** "E (< | = | >) E" */
    private static void comparesAtTheEdge() {
        String[] signs = {"<", "=", ">"};
        boolean[][] so = {{true, false, false}, {false, true, false}, {false, false, true}};
        for (int i = 0; i < 3; i++) {
            for (int d = -1; d <= 1; d++) {
                MuleVote x = train(1, 1);
                String c = (5 + d) + signs[i] + "5";
                boolean is = so[i][d + 1];
                good(x, LAW, "need 1 when " + c + ";lean 1 when not " + c + ";lean 2;need 2;risk 1 when not not " + c + ";risk 2;", 6);
                Due.is("16: " + c, x.of(0, 5), is ? 1 : 2);
                Due.is("16: not " + c, x.of(0, 20), is ? 2 : 1);
                Due.is("16: not not " + c, x.of(0, 31), is ? 1 : 2);
            }
        }
    }

    private static void when(String b, boolean due) {
        MuleVote x = new MuleVote();
        x.mule(1, 2);
        good(x, LAW, "need 1 when " + b + ";need 0;", 2);
        Due.is("16: when " + b, x.of(0, 5), due ? 1 : 0);
    }

    /** "B = A {or A}. A = C {and C}. C = .. not C | ( B ). E = T {(+ | -) T}. T = U {* U | / NUMBER}." */
    private static void bindsAsItIsTold() {
        String[] cs = {"2<1", "1<2"};
        for (int set = 0; set < 8; set++) {
            boolean a = (set & 1) != 0;
            boolean b = (set & 2) != 0;
            boolean c = (set & 4) != 0;
            String p = cs[a ? 1 : 0];
            String q = cs[b ? 1 : 0];
            String r = cs[c ? 1 : 0];
            when(p + " or " + q + " and " + r, a || b && c);
            when(p + " and " + q + " or " + r, a && b || c);
            when("(" + p + " or " + q + ") and " + r, (a || b) && c);
            when(p + " and (" + q + " or " + r + ")", a && (b || c));
            when("not " + p + " or " + q, !a || b);
            when("not " + p + " and " + q + " or not " + r, !a && b || !c);
            when("not (" + p + " or " + q + ") and " + r, !(a || b) && c);
            when("not (" + p + " and " + q + ") or " + r, !(a && b) || c);
            when("not not (not " + p + " or " + q + ") and not " + r, (!a || b) && !c);
        }
        need("2+3*4", 14);
        need("2*3+4", 10);
        need("20-3-4", 13);
        need("20-3+4", 21);
        need("20/3*3", 18);
        need("20*3/3", 20);
        need("100/7/2", 7);
        need("100-20/3", 94);
        need("2*3-4/3*2+100", 104);
        need("100-2*3*4+1", 77);
        when("1+1*2=3", true);
        when("5-1<2*2+1", true);
        when("10/3>10/4", true);
        when("2*3=3+3 and 7-3=8/2", true);
        when("5<2+1", false);
        when("1>3-1", false);
        when("2=3-2", false);
        when("4=2+1", false);
        when("1+4<2", false);
        when("4-2>3", false);
        when("2*3<2+3", false);
    }

    /** "lean of a MULE to a MAN ..", "need of a MULE: the same but ..", "risk of a MULE on a PATH: .. the rest 0" */
    private static void tellsOfEachWhatItKnows() {
        String[] facts = {"mule", "age", "strong", "liking", "heeded", "hand", "songs", "snow", "hours", "day"};
        int[] leans = {2, 12, 11, 44, 2, 6, 7, 8, 0, 3};
        int[] needs = {2, 12, 11, 0, 0, 0, 0, 8, 0, 3};
        int[] risks = {2, 12, 11, 0, 0, 0, 0, 8, 24, 3};
        int[] driven = {2, 12, 11, 0, 0, 4, 5, 8, 24, 3};
        MuleVote x = new MuleVote();
        for (int i = 0; i < 4; i++) {
            x.mule(9 + i, 10 + i);
        }
        x.man(0, 4, 5);
        x.man(0, 6, 7);
        x.set(0, 0, 8);
        x.days(3);
        for (int i = 0; i < facts.length; i++) {
            Due.tell(x, LAW, "risk " + facts[i] + ";");
            Due.is("16: risk without a DRIVER: " + facts[i], x.of(2, 54), risks[i]);
        }
        Due.tell(x, HEEDS, "mule 2 heeds 0 and 1 and 3;");
        Due.tell(x, LAW, "");
        x.like(0, 1, 50);
        x.like(1, 1, 50);
        x.like(2, 1, 44);
        x.like(3, 0, 50);
        x.like(2, 0, 90);
        x.vote();
        x.set(2, 1, 1);
        for (int i = 0; i < facts.length; i++) {
            Due.tell(x, LAW, "lean " + facts[i] + ";need " + facts[i] + ";risk " + facts[i] + ";");
            Due.is("16: lean: " + facts[i], x.of(2, 21), leans[i]);
            Due.is("16: need: " + facts[i], x.of(2, 5), needs[i]);
        }
        Due.is("36: two and two: no DRIVER", x.look(5), -1);
        Due.tell(x, LAW, "lean 50 when hand=4;lean 0;");
        Due.is("7: vote", x.vote(), 0);
        for (int i = 0; i < facts.length; i++) {
            Due.tell(x, LAW, "risk " + facts[i] + ";");
            Due.is("16: risk by the DRIVER: " + facts[i], x.of(2, 54), driven[i]);
        }
    }
}
