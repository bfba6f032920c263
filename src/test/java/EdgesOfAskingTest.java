/** Promises 16 to 19 and 36 at their edges: a test for each sentence of the document that names one. */
public final class EdgesOfAskingTest {
    private static final int LEAST = Integer.MIN_VALUE;
    private static final int MOST = Integer.MAX_VALUE;

    public static void main(String[] args) {
        aMuleThatThereIs();
        whatIsAskedOfAMule();
        manByMan();
        hoursAre1To24();
        asMulesStandNow();
        setsOfTwelve();
        aManThatThereIs();
        pathsBetweenCamps();
        linesOfTheBookThatThereAre();
        whatIsLookedAt();
        Due.end("EdgesOfAskingTest");
    }

    private static MuleVote full() {
        MuleVote x = new MuleVote();
        for (int i = 0; i < 12; i++) {
            x.mule(i + 1, i + 20);
        }
        for (int i = 0; i < 5; i++) {
            x.man(i + 1, i + 2, i + 3);
        }
        return x;
    }

    /** "NONE - 1 if there is none such": of MULES. */
    private static void aMuleThatThereIs() {
        for (int mules : new int[] {0, 1, 11, 12}) {
            MuleVote x = ActsTest.train(mules, 5);
            for (int mule : new int[] {LEAST, -2, -1, mules, mules + 1, 12, 60, MOST}) {
                for (int what : new int[] {0, 3, 4, 5, 10, 14, 20, 24, 31, 54}) {
                    Due.is("16: of(" + mule + ", " + what + ")", x.of(mule, what), -2);
                }
            }
            if (mules > 0) {
                Due.is("16: the last one", x.of(mules - 1, 0), 10);
                Due.is("16: the last one", x.of(mules - 1, 1), mules - 1);
            }
        }
    }

    /** "NONE - 1 if .. another what" */
    private static void whatIsAskedOfAMule() {
        MuleVote x = full();
        for (int what = -20; what <= 80; what++) {
            boolean can = what >= 0 && what <= 5 || what >= 10 && what <= 14 || what >= 20 && what <= 24 || what >= 31 && what <= 54;
            int due = what == 0 ? 12 : what == 1 ? 31 : what == 3 ? -1 : what == 5 ? 40 : what >= 10 && what <= 24 ? 30 : 0;
            Due.is("16: of(11, " + what + ")", x.of(11, what), can ? due : -2);
        }
        for (int what : new int[] {LEAST, LEAST + 30, LEAST + 31, -31, MOST, MOST - 30, 1000, 256, 65536, 1 << 31 | 3}) {
            Due.is("16: of(11, " + what + ")", x.of(11, what), -2);
        }
    }

    /** "10 + m LIKING for MAN m, 20 + m lean": of MEN that there are. */
    private static void manByMan() {
        for (int men = 0; men <= 5; men++) {
            MuleVote x = ActsTest.train(2, men);
            for (int m = 0; m < men; m++) {
                x.like(1, m, 60 + m);
            }
            for (int m = 0; m < 10; m++) {
                Due.is("16: of(1, " + (10 + m) + ")", x.of(1, 10 + m), m < men ? 60 + m : -2);
                Due.is("16: of(1, " + (20 + m) + ")", x.of(1, 20 + m), m < men ? 60 + m : -2);
                Due.is("16: of(0, " + (10 + m) + ")", x.of(0, 10 + m), m < men ? 30 : -2);
            }
        }
    }

    /** "30 + h risk on a PATH of h hours (1 .. 24, by the DRIVER)" */
    private static void hoursAre1To24() {
        MuleVote x = full();
        x.like(0, 3, 50);
        Due.tell(x, 0, "risk hours*10+hand;");
        Due.is("16: 30", x.of(5, 30), -2);
        for (int h = 1; h <= 24; h++) {
            Due.is("16: without a DRIVER, " + h, x.of(5, 30 + h), 10 * h);
        }
        Due.is("16: 55", x.of(5, 55), -2);
        x.vote();
        for (int h = 1; h <= 24; h++) {
            Due.is("16: by the DRIVER, " + h, x.of(5, 30 + h), 10 * h + 5);
        }
        x.set(2, 5, 1);
        Due.is("16: of a LAME one", x.of(5, 54), 245);
    }

    /** "(as MULES stand now)" "3 BEHIND (NONE)" */
    private static void asMulesStandNow() {
        MuleVote x = ActsTest.train(3, 2);
        x.like(1, 1, 50);
        Due.tell(x, 1, "mule 0 heeds 1 and 2;mule 2 heeds 1;");
        Due.is("16: none stands", x.of(0, 21), 30);
        x.vote();
        Due.is("16: two that it heeds", x.of(0, 21), 50);
        Due.is("16: none of them", x.of(0, 20), 30);
        Due.is("16: BEHIND", x.of(0, 3), 1);
        x.set(2, 1, 1);
        Due.is("16: LAME ones stand still", x.of(0, 21), 50);
        Due.is("16: BEHIND", x.of(1, 3), 1);
        x.stands(0);
        x.settles(0);
        x.wins(0, 0);
        x.turnsBy(0);
        x.goes(60, 0);
        Due.is("16: as before these were asked", x.of(0, 21), 50);
        x.vote();
        Due.is("16: none stands any more", x.of(0, 21), 30);
        Due.is("16: BEHIND", x.of(0, 3), -1);
    }

    /** "4 whom it heeds (a set)", "3 who is BEHIND him (a set)", "8 those LAME (a set)": of all twelve. */
    private static void setsOfTwelve() {
        MuleVote x = full();
        Due.is("16: heeds none", x.of(0, 4), 0);
        Due.is("17: none is BEHIND him", x.manOf(4, 3), 0);
        Due.is("36: none is LAME", x.look(8), 0);
        Due.tell(x, 1, "mule 11 heeds 0 and 1 and 2 and 3 and 4 and 5 and 6 and 7 and 8 and 9 and 10;mule 0 heeds 11;mule 0 heeds 3;mule 0 heeds 11;");
        Due.is("16: heeds all others", x.of(11, 4), 2047);
        Due.is("16: heeds by several lines", x.of(0, 4), 2056);
        for (int m = 0; m < 12; m++) {
            x.like(m, 4, 99);
        }
        x.vote();
        Due.is("17: all are BEHIND him", x.manOf(4, 3), 4095);
        Due.is("17: none is BEHIND him", x.manOf(3, 3), 0);
        for (int m = 0; m < 12; m++) {
            x.set(2, m, 1);
        }
        Due.is("36: all are LAME", x.look(8), 4095);
        Due.is("17: LAME ones are BEHIND him still", x.manOf(4, 3), 4095);
    }

    /** "NONE if there is none such, or another what": of MEN. */
    private static void aManThatThereIs() {
        for (int men = 0; men <= 5; men++) {
            MuleVote x = ActsTest.train(1, men);
            for (int what = 0; what < 4; what++) {
                for (int man : new int[] {LEAST, -1, men, 5, MOST}) {
                    Due.is("17: manOf(" + man + ", " + what + ")", x.manOf(man, what), -1);
                }
            }
            for (int man = 0; man < men; man++) {
                int[] dues = {3, man, 4, 0};
                for (int what = 0; what < 4; what++) {
                    Due.is("17: manOf(" + man + ", " + what + ")", x.manOf(man, what), dues[what]);
                }
                for (int what : new int[] {LEAST, -2, -1, 4, 5, MOST}) {
                    Due.is("17: manOf(" + man + ", " + what + ")", x.manOf(man, what), -1);
                }
            }
        }
    }

    /** "NONE if there is none, or one can't be": of PATHS. */
    private static void pathsBetweenCamps() {
        MuleVote x = new MuleVote();
        Due.tell(x, 3, "path 0 9 hours 1;path 9 0 hours 24;path 4 5 hours 2;path 0 9 hours 7;");
        for (int a = -1; a <= 10; a++) {
            for (int b = -1; b <= 10; b++) {
                int due = a == 0 && b == 9 ? 1 : a == 9 && b == 0 ? 24 : a == 4 && b == 5 ? 2 : -1;
                Due.is("18: path(" + a + ", " + b + ")", x.path(a, b), due);
            }
        }
        for (int v : new int[] {LEAST, MOST}) {
            Due.is("18: path(" + v + ", 0)", x.path(v, 0), -1);
            Due.is("18: path(0, " + v + ")", x.path(0, v), -1);
        }
    }

    /** "NONE - 1 if there is none such, or another what": of THE BOOK. */
    private static void linesOfTheBookThatThereAre() {
        MuleVote x = ActsTest.train(1, 1);
        Due.is("19: none yet", x.book(0, 0), -2);
        x.rest();
        for (int what : new int[] {LEAST, -2, -1, 4, 5, MOST}) {
            Due.is("19: book(0, " + what + ")", x.book(0, what), -2);
        }
        x.days(1);
        Due.is("19: a DAY alone is no line", x.book(1, 0), -2);
        x.act(1, 0, 0);
        int[][] lines = {{0, 6, -1, 0}, {1, 2, 0, 0}};
        for (int what = 0; what < 4; what++) {
            for (int i : new int[] {LEAST, -2, -1, 2, 3, 149, 150, 151, MOST}) {
                Due.is("19: book(" + i + ", " + what + ")", x.book(i, what), -2);
            }
            Due.is("19: the first line", x.book(0, what), lines[0][what]);
            Due.is("19: the last line", x.book(1, what), lines[1][what]);
        }
        x.undo();
        Due.is("19: a line that went back", x.book(1, 0), -2);
        x.goes(60, 0);
        x.settles(0);
        Due.is("19: thinking writes none", x.book(1, 0), -2);
    }

    /** "What 0 MULES .. 17 what can be undone. NONE for another what. (STATE, HOURS as they are.)" */
    private static void whatIsLookedAt() {
        MuleVote x = full();
        x.state(LEAST);
        Due.tell(x, 0, "lean 99;need 1;risk 0;");
        Due.tell(x, 1, "mule 0 heeds 1;");
        Due.tell(x, 2, "on 0 vote;on 9 vote;");
        Due.tell(x, 3, "path 0 1 hours 7;path 1 2 hours 24;path 2 1 hours 1;path 1 0 hours 1;");
        Due.tell(x, 4, "load 1 worth 1;load 1 worth 1;load 1 worth 1;load 1 worth 1;load 1 worth 1;");
        x.seen(0, 0, true);
        x.seen(1, 1, false);
        x.vote();
        Due.tell(x, 0, "lean 0;");
        x.vote();
        Due.tell(x, 0, "lean 99;risk 0;");
        x.set(0, 0, 9);
        x.set(2, 11, 1);
        x.days(1);
        x.go(1);
        x.act(1, 4, 0);
        int[] dues = {12, 5, 1, 9, 1, 0, 1, 7, 2048, 5, LEAST, 2, 1, 2, 4, 5, 2, 3};
        for (int what = 0; what < dues.length; what++) {
            Due.is("36: look(" + what + ")", x.look(what), dues[what]);
        }
        for (int what : new int[] {LEAST, -2, -1, 18, 19, 100, MOST}) {
            Due.is("36: look(" + what + ")", x.look(what), -1);
        }
        x.state(-1);
        Due.is("36: STATE as it is", x.look(10), -1);
    }
}
