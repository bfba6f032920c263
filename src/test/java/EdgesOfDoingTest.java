/** Promises 7 to 11 at their edges: a test for each sentence of the document that names one. */
public final class EdgesOfDoingTest {
    private static final int LEAST = Integer.MIN_VALUE;
    private static final int MOST = Integer.MAX_VALUE;

    public static void main(String[] args) {
        noneIsBehindAnyMore();
        lameOnesAreNotAsked();
        whoStandsIsNotAskedAgain();
        eachIsAskedAtItsTurn();
        ofMenTheLeastOfSeveral();
        itsNeedAtLeast();
        tillNothingChanges();
        oneAtLeastAndMoreThanEachOther();
        saltAbove0();
        likingStopsAt99And0();
        songsOf0();
        actsThatCantBe();
        goingThatCantBe();
        aDrawIfRiskIsAbove0();
        drawsWithoutSign();
        theRiskIsThatOfTheWay();
        theTrainIsThereEvenSo();
        restsWhenNoneIsLame();
        daysAre1To60();
        dayIs9999AtMost();
        plansOfThisDayInTheirOrder();
        plansThatCantBeDone();
        plansOfTheLastDay();
        likingBehindOneGoesDownTo0();
        theBookHas150Lines();
        aLineOfTheBookForEach();
        Due.end("EdgesOfDoingTest");
    }

    /** Mules 0 .. of STRONG 10, men 0 .. with SALT 3, HAND as their number, SONGS 4. */
    private static MuleVote train(int mules, int men) {
        return ActsTest.train(mules, men);
    }

    private static void book(MuleVote x, int line, int... due) {
        for (int what = 0; what < 4; what++) {
            Due.is("19: book(" + line + ", " + what + ")", x.book(line, what), due[what]);
        }
    }

    /** "none is BEHIND any more" */
    private static void noneIsBehindAnyMore() {
        MuleVote x = train(3, 2);
        x.like(0, 0, 50);
        x.like(1, 0, 50);
        x.like(2, 1, 50);
        Due.is("7: vote", x.vote(), 0);
        x.set(2, 0, 1);
        x.like(1, 0, 39);
        Due.is("7: a LAME one and one that leans less are BEHIND none", x.vote(), 1);
        Due.is("7: of(0, 3)", x.of(0, 3), -1);
        Due.is("7: of(1, 3)", x.of(1, 3), -1);
        Due.is("7: of(2, 3)", x.of(2, 3), 1);
        MuleVote y = train(2, 1);
        y.like(1, 0, 40);
        Due.tell(y, 1, "mule 0 heeds 1;");
        Due.is("7: MULE 0 in the second round", y.settles(0), 2);
        y.vote();
        Due.is("7: who stood before the VOTE is not heeded", y.settles(0), 2);
        y.like(1, 0, 39);
        Due.is("7: nor followed", y.vote(), -1);
    }

    /** "MULE by MULE that is not LAME" */
    private static void lameOnesAreNotAsked() {
        MuleVote x = train(2, 1);
        x.like(0, 0, 99);
        x.set(2, 0, 1);
        Due.tell(x, 1, "mule 1 heeds 0;");
        Due.is("7: all are LAME or lean too little", x.vote(), -1);
        x.like(1, 0, 40);
        Due.is("7: one is not LAME", x.vote(), 0);
        x.set(2, 1, 1);
        Due.is("7: all are LAME", x.vote(), -1);
        Due.is("7: TIES", x.look(6), 2);
    }

    /** "and not BEHIND one yet" */
    private static void whoStandsIsNotAskedAgain() {
        MuleVote x = train(3, 2);
        x.like(0, 0, 45);
        x.like(0, 1, 44);
        x.like(1, 1, 60);
        x.like(2, 1, 20);
        Due.tell(x, 1, "mule 0 heeds 1;mule 2 heeds 0 and 1;");
        Due.is("7: it chose before it could heed", x.vote(), 0);
        Due.is("7: of(0, 3)", x.of(0, 3), 0);
        Due.is("7: it would lean more to another one now", x.of(0, 21), 54);
        Due.is("7: leans to both that it heeds", x.of(2, 20), 40);
        Due.is("7: 30 and 10: of(2, 3)", x.of(2, 3), 0);
        MuleVote y = train(2, 2);
        y.like(0, 0, 45);
        y.like(0, 1, 44);
        y.like(1, 1, 60);
        Due.tell(y, 1, "mule 0 heeds 1;");
        Due.is("7: one to one", y.vote(), -1);
        Due.is("7: of(0, 3)", y.of(0, 3), 0);
    }

    /** "asked at its turn" */
    private static void eachIsAskedAtItsTurn() {
        MuleVote x = train(3, 1);
        x.like(0, 0, 40);
        Due.tell(x, 1, "mule 1 heeds 0;mule 2 heeds 1;");
        Due.is("7: all in one round", x.settles(0), 1);
        Due.is("7: vote", x.vote(), 0);
        Due.is("7: manOf(0, 3)", x.manOf(0, 3), 7);
        MuleVote y = train(3, 1);
        y.like(2, 0, 40);
        Due.tell(y, 1, "mule 1 heeds 2;mule 0 heeds 1;");
        Due.is("7: one in each round", y.settles(0), 3);
        y.vote();
        Due.is("7: manOf(0, 3)", y.manOf(0, 3), 7);
    }

    /** "of MEN the one to whom it leans most (of several the least ..)" */
    private static void ofMenTheLeastOfSeveral() {
        MuleVote x = train(1, 5);
        for (int man = 0; man < 5; man++) {
            x.like(0, man, man == 0 ? 79 : 80);
        }
        Due.is("7: four alike", x.vote(), 1);
        x.like(0, 4, 81);
        Due.is("7: the last one", x.vote(), 4);
        Due.tell(x, 0, "lean 999+songs-hand;");
        Due.is("7: leans are held to 999 before", x.vote(), 0);
        Due.tell(x, 0, "lean 0-1;need 0;");
        Due.is("7: leans are 0 at least", x.vote(), 0);
    }

    /** "if that is its need at least" */
    private static void itsNeedAtLeast() {
        for (int need = 0; need <= 2; need++) {
            MuleVote x = train(1, 2);
            Due.tell(x, 0, "lean 1;need " + need + ";");
            Due.is("7: lean 1, need " + need, x.vote(), need <= 1 ? 0 : -1);
        }
        MuleVote x = train(1, 2);
        x.like(0, 1, 39);
        Due.is("7: need 40, lean 39", x.vote(), -1);
        x.like(0, 1, 40);
        Due.is("7: need 40, lean 40", x.vote(), 1);
        Due.tell(x, 0, "lean 999;need 999;");
        Due.is("7: need 999, lean 999", x.vote(), 0);
        Due.tell(x, 0, "lean 1000;need 1000;");
        Due.is("7: both are held to 999", x.vote(), 0);
        Due.tell(x, 0, "lean 998;need 1000;");
        Due.is("7: lean 998", x.vote(), -1);
        Due.tell(x, 0, "lean 0;need 0;");
        Due.is("7: need 0, lean 0", x.vote(), 0);
    }

    /** "till a round in which nothing changes" */
    private static void tillNothingChanges() {
        MuleVote x = train(12, 2);
        x.like(11, 1, 40);
        StringBuilder s = new StringBuilder();
        for (int i = 0; i < 11; i++) {
            s.append("mule ").append(i).append(" heeds ").append(i + 1).append(';');
        }
        Due.tell(x, 1, s.toString());
        Due.is("7: twelve rounds", x.settles(0), 12);
        Due.is("7: vote", x.vote(), 1);
        Due.is("7: all", x.manOf(1, 3), 4095);
        book(x, 0, 0, 0, 1, 12);
        x.set(2, 6, 1);
        Due.is("7: the row is broken", x.settles(0), 5);
        x.vote();
        Due.is("7: behind it none stands", x.manOf(1, 3), 4095 & ~127);
    }

    /** "DRIVER is the MAN BEHIND whom most are, if that is one at least and more than BEHIND each other one" */
    private static void oneAtLeastAndMoreThanEachOther() {
        int[][] chosen = {{0, 0, 1, 1, 2}, {0, 0, 1, 2, 2}, {0, 1, 1, 2, 2}, {0, 0, 1, 1, 1}, {2, 2, 2, 1, 1}, {2, 0, 2, 0, 2},
            {0, 1, 2, 3, 4}, {4, 4, 4, 4, 4}, {0, 1, 2, 3, 3}};
        int[] drivers = {-1, -1, -1, 1, 2, 2, -1, 4, 3};
        for (int i = 0; i < chosen.length; i++) {
            MuleVote x = train(5, 5);
            for (int m = 0; m < 5; m++) {
                x.like(m, chosen[i][m], 50);
            }
            Due.is("7: vote " + i, x.vote(), drivers[i]);
            Due.is("36: DRIVER " + i, x.look(5), drivers[i]);
            Due.is("36: TIES " + i, x.look(6), drivers[i] < 0 ? 1 : 0);
        }
        MuleVote x = train(1, 2);
        x.like(0, 1, 50);
        Due.is("7: one is enough", x.vote(), 1);
        x.like(0, 1, 0);
        Due.is("7: a DRIVER who is none any more", x.vote(), -1);
        Due.is("36: look(5)", x.look(5), -1);
        Due.is("7: MULES without MEN", train(3, 0).vote(), -1);
        Due.is("7: MEN without MULES", train(0, 3).vote(), -1);
    }

    /** "a MAN with SALT above 0 to a MULE: SALT one less" */
    private static void saltAbove0() {
        MuleVote x = train(1, 1);
        x.set(3, 0, 1);
        x.set(2, 0, 1);
        Due.is("8: SALT 1, and the MULE is LAME", x.act(0, 0, 0), true);
        Due.is("8: SALT 0", x.manOf(0, 0), 0);
        String was = Whole.andUndo(x);
        Due.is("8: none is left", x.act(0, 0, 0), false);
        Due.is("8: nothing changes", Whole.andUndo(x).equals(was), true);
    }

    /** "15 more (99 at most)", "as much more as SONGS (99 at most)", "20 less (0 at least)", "5 more (99 at most)" */
    private static void likingStopsAt99And0() {
        int[][] salted = {{0, 15}, {83, 98}, {84, 99}, {85, 99}, {99, 99}};
        for (int[] s : salted) {
            MuleVote x = train(2, 2);
            x.like(0, 0, s[0]);
            x.act(0, 0, 0);
            Due.is("8: SALT to one at " + s[0], x.of(0, 10), s[1]);
            Due.is("8: for him alone", x.of(0, 11), 30);
            Due.is("8: to it alone", x.of(1, 10), 30);
        }
        int[][] sung = {{0, 9}, {89, 98}, {90, 99}, {91, 99}, {99, 99}};
        for (int[] s : sung) {
            MuleVote x = train(2, 2);
            x.set(5, 0, 9);
            x.like(1, 0, s[0]);
            x.act(1, 0, 0);
            Due.is("8: a song of 9 to one at " + s[0], x.of(1, 10), s[1]);
            Due.is("8: to each", x.of(0, 10), 39);
        }
        int[][] whipped = {{0, 0}, {19, 0}, {20, 0}, {21, 1}, {99, 79}};
        int[][] others = {{0, 5}, {93, 98}, {94, 99}, {95, 99}, {99, 99}};
        for (int i = 0; i < 5; i++) {
            MuleVote x = train(2, 3);
            x.like(1, 1, whipped[i][0]);
            x.like(1, 0, others[i][0]);
            x.like(1, 2, others[i][0]);
            x.act(2, 1, 1);
            Due.is("8: a whip to one at " + whipped[i][0], x.of(1, 11), whipped[i][1]);
            Due.is("8: for MAN 0 at " + others[i][0], x.of(1, 10), others[i][1]);
            Due.is("8: for MAN 2 at " + others[i][0], x.of(1, 12), others[i][1]);
            Due.is("8: to it alone", x.of(0, 11), 30);
        }
    }

    /** SONGS of 0 are sung all the same. */
    private static void songsOf0() {
        MuleVote x = train(1, 1);
        x.set(5, 0, 0);
        Due.is("8: it can be", x.act(1, 0, 0), true);
        Due.is("8: LIKING", x.of(0, 10), 30);
        book(x, 0, 0, 2, 0, 0);
        Due.is("8: nobody hears", train(0, 1).act(1, 0, 0), true);
    }

    /** "true; false if it can't be, or another what" "(1; the MULE not asked)" */
    private static void actsThatCantBe() {
        MuleVote x = train(2, 2);
        x.vote();
        String was = Whole.andUndo(x);
        for (int who : new int[] {LEAST, -1, 2, MOST}) {
            for (int what = 0; what <= 2; what++) {
                Due.is("8: act(" + what + ", " + who + ", 0)", x.act(what, who, 0), false);
            }
            Due.is("8: act(0, 0, " + who + ")", x.act(0, 0, who), false);
            Due.is("8: act(2, 0, " + who + ")", x.act(2, 0, who), false);
        }
        for (int what : new int[] {LEAST, -2, -1, 3, 4, 5, 6, MOST, MOST - 1}) {
            Due.is("8: act(" + what + ", 0, 0)", x.act(what, 0, 0), false);
        }
        Due.is("8: nothing changes", Whole.andUndo(x).equals(was), true);
        for (int mule : new int[] {LEAST, -1, 2, MOST}) {
            Due.is("8: act(1, 1, " + mule + ")", x.act(1, 1, mule), true);
        }
        Due.is("8: the last MAN, the last MULE", x.act(0, 1, 1), true);
        Due.is("8: the last MAN, the last MULE", x.act(2, 1, 1), true);
    }

    /** "how many went lame; NONE if it can't be" "along a PATH with a DRIVER" */
    private static void goingThatCantBe() {
        MuleVote x = train(1, 1);
        Due.tell(x, 3, "path 0 9 hours 24;path 8 0 hours 1;");
        Due.is("9: no DRIVER", x.go(9), -1);
        x.like(0, 0, 50);
        x.vote();
        String was = Whole.andUndo(x);
        for (int camp : new int[] {LEAST, -1, 0, 1, 8, 10, MOST}) {
            Due.is("9: go(" + camp + ")", x.go(camp), -1);
        }
        Due.is("9: nothing changes", Whole.andUndo(x).equals(was), true);
        Due.is("9: go(9)", x.go(9), 0);
        Due.is("36: AT", x.look(4), 9);
        Due.is("9: a PATH is one way", x.go(0), -1);
        x.set(1, 0, 8);
        Due.is("9: go(0)", x.go(0), 0);
        Due.is("36: HOURS", x.look(7), 25);
        x.like(0, 0, 0);
        x.vote();
        x.set(1, 0, 8);
        Due.is("9: no DRIVER any more", x.go(0), -1);
    }

    private static long drawOf(int state) {
        return ((state & 0xffffffffL) * 1664525L + 1013904223L & 0xffffffffL) >> 8;
    }

    /** "if risk is above 0, a DRAW of 1000: below risk it is LAME" */
    private static void aDrawIfRiskIsAbove0() {
        String[] laws = {"risk 0;", "risk 0-1;", "risk 1;", "risk 999;", "risk 1000;", "risk 1001;"};
        int at0 = 0;
        while (drawOf(at0) % 1000 != 0) {
            at0++;
        }
        int at999 = 0;
        while (drawOf(at999) % 1000 != 999) {
            at999++;
        }
        int[] dues0 = {0, 0, 1, 1, 1, 1};
        int[] dues999 = {0, 0, 0, 0, 1, 1};
        for (int i = 0; i < laws.length; i++) {
            goesFrom(laws[i], at0, dues0[i], i >= 2);
            goesFrom(laws[i], at999, dues999[i], i >= 2);
        }
    }

    private static void goesFrom(String law, int state, int due, boolean draws) {
        MuleVote x = train(2, 1);
        Due.tell(x, 3, "path 0 1 hours 3;");
        Due.tell(x, 0, "lean 99;" + law);
        x.vote();
        x.set(2, 0, 1);
        x.state(state);
        Due.is("9: how many, " + law, x.go(1), due);
        Due.is("9: LAME, " + law, x.look(8), 1 + 2 * due);
        Due.is("9: a LAME one draws nothing, " + law, x.look(10), draws ? 1664525 * state + 1013904223 : state);
        Due.is("19: lines, " + law, x.look(9), 2 + due);
        if (due == 1) {
            book(x, 2, 0, 5, 1, 0);
        }
    }

    /** "(ints, which wrap), then it is its highest 24 bits (without sign) modulo m" */
    private static void drawsWithoutSign() {
        for (int state : new int[] {LEAST, MOST, -1, 0, 1, 123456789, -987654321, 1 << 30}) {
            int drawn = (int) (drawOf(state) % 1000);
            for (int more = 0; more <= 1; more++) {
                MuleVote x = train(1, 1);
                Due.tell(x, 3, "path 0 1 hours 3;");
                Due.tell(x, 0, "lean 99;risk " + (drawn + more) + ";");
                x.vote();
                x.state(state);
                Due.is("9: a DRAW of " + drawn + " below " + (drawn + more), x.go(1), more);
            }
        }
    }

    /** "risk of a MULE on a PATH: .. hours: of the PATH; hand, songs: the DRIVER's" */
    private static void theRiskIsThatOfTheWay() {
        MuleVote x = train(2, 3);
        x.like(0, 2, 50);
        Due.tell(x, 3, "path 0 1 hours 7;path 0 1 hours 1;path 1 0 hours 5;");
        Due.tell(x, 0, "risk 1000 when mule=1 and hours=7 and hand=2 and songs=4;risk 0;");
        Due.is("7: vote", x.vote(), 2);
        Due.is("9: MULE 1 alone", x.go(1), 1);
        Due.is("36: LAME", x.look(8), 2);
        x.set(2, 1, 0);
        Due.is("9: of 5 hours", x.go(0), 0);
        Due.is("36: HOURS", x.look(7), 12);
    }

    /** "the train is AT that CAMP", whoever went LAME; who is BEHIND one is so still. */
    private static void theTrainIsThereEvenSo() {
        MuleVote x = train(12, 1);
        Due.tell(x, 3, "path 0 1 hours 24;path 1 2 hours 24;");
        Due.tell(x, 0, "lean 99;risk 1000;");
        x.vote();
        Due.is("9: all twelve", x.go(1), 12);
        Due.is("36: LAME", x.look(8), 4095);
        Due.is("36: AT", x.look(4), 1);
        Due.is("16: LAME is 1", x.of(11, 2), 1);
        Due.is("17: BEHIND", x.manOf(0, 3), 4095);
        book(x, 1, 0, 4, 1, 24);
        for (int m = 0; m < 12; m++) {
            book(x, 2 + m, 0, 5, m, 0);
        }
        Due.is("9: none is left to go LAME", x.go(2), 0);
        Due.is("36: AT", x.look(4), 2);
        Due.is("36: HOURS", x.look(7), 48);
    }

    /** "To REST: MULE by MULE that is LAME: it is not any more." "how many were LAME" */
    private static void restsWhenNoneIsLame() {
        MuleVote x = train(12, 1);
        Due.is("10: none", x.rest(), 0);
        book(x, 0, 0, 6, -1, 0);
        Due.is("36: it can be undone", x.look(17), 1);
        for (int m = 0; m < 12; m++) {
            x.set(2, m, 1);
        }
        Due.is("10: all", x.rest(), 12);
        Due.is("36: LAME", x.look(8), 0);
        Due.is("10: none any more", x.rest(), 0);
    }

    /** "DAYS go by (1 .. 60)" "NONE, and nothing is done, if one can't be" */
    private static void daysAre1To60() {
        MuleVote x = train(1, 1);
        Due.tell(x, 2, "on 0 sing 0;on 59 sing 0;on 60 sing 0;");
        x.vote();
        String was = Whole.andUndo(x);
        for (int n : new int[] {LEAST, -1, 0, 61, MOST}) {
            Due.is("11: days(" + n + ")", x.days(n), -1);
            Due.is("11: nothing is done", Whole.andUndo(x).equals(was), true);
        }
        Due.is("11: days(60)", x.days(60), 2);
        Due.is("36: DAY", x.look(2), 60);
        Due.is("11: days(1)", x.days(1), 1);
        Due.is("36: DAY", x.look(2), 61);
    }

    /** "or DAY would be above 9999" */
    private static void dayIs9999AtMost() {
        MuleVote x = train(1, 1);
        for (int i = 0; i < 166; i++) {
            x.days(60);
        }
        x.days(37);
        Due.is("36: DAY", x.look(2), 9997);
        Due.is("11: above it", x.days(3), -1);
        Due.is("11: far above it", x.days(60), -1);
        Due.is("11: nothing is done", x.look(2), 9997);
        Due.is("11: just to it", x.days(2), 0);
        Due.is("36: DAY", x.look(2), 9999);
        Due.is("11: one above it", x.days(1), -1);
        Due.is("36: DAY", x.look(2), 9999);
        Due.is("7: a VOTE on it", x.vote(), -1);
        book(x, 0, 9999, 0, -1, 0);
        Due.is("34: undo", x.undo(), true);
        Due.is("34: undo of a DAY", x.undo(), true);
        Due.is("36: DAY", x.look(2), 9998);
        Due.is("11: once more", x.days(1), 0);
    }

    /** "Line by line of PLANS for this DAY" */
    private static void plansOfThisDayInTheirOrder() {
        MuleVote x = train(1, 2);
        x.like(0, 0, 25);
        x.like(0, 1, 0);
        Due.tell(x, 2, "on 0 vote;on 0 salt 0 0;on 0 vote;on 1 vote;on 0 whip 0 0;on 0 vote;on 0 sing 1;");
        Due.is("11: six lines", x.days(1), 6);
        int[][] lines = {{0, 0, -1, 0}, {0, 1, 0, 0}, {0, 0, 0, 1}, {0, 3, 0, 0}, {0, 0, -1, 0}, {0, 2, 1, 0}};
        for (int i = 0; i < lines.length; i++) {
            book(x, i, lines[i]);
        }
        Due.is("19: no more", x.look(9), 6);
        Due.is("36: TIES", x.look(6), 2);
        Due.is("11: the next DAY", x.days(1), 1);
        book(x, 6, 1, 0, -1, 0);
    }

    /** "what can be done": a line that can't be is no line done. */
    private static void plansThatCantBeDone() {
        MuleVote x = train(1, 1);
        x.set(3, 0, 1);
        x.like(0, 0, 9);
        Due.tell(x, 3, "path 0 1 hours 2;");
        Due.tell(x, 2, "on 0 go 1;on 0 salt 0 0;on 0 salt 0 0;on 0 go 0;on 1 vote;on 1 go 1;on 2 sing 0;");
        Due.is("11: the first SALT alone", x.days(1), 1);
        Due.is("19: its line alone", x.look(9), 1);
        Due.is("11: a VOTE that nobody wins is done, a GOING is not", x.days(1), 1);
        Due.is("36: AT", x.look(4), 0);
        Due.is("11: none on a DAY that is over", x.days(60), 1);
        MuleVote y = train(0, 0);
        Due.tell(y, 2, "on 0 vote;on 0 go 1;");
        Due.is("11: nobody", y.days(1), 1);
    }

    /** "(DAY 0 .. 999.)" */
    private static void plansOfTheLastDay() {
        MuleVote x = train(1, 1);
        Due.tell(x, 2, "on 999 sing 0;on 999 whip 0 0;on 998 vote;");
        for (int i = 0; i < 16; i++) {
            Due.is("11: nothing yet", x.days(60), 0);
        }
        Due.is("11: to 998", x.days(38), 0);
        Due.is("11: on 998", x.days(1), 1);
        Due.is("11: on 999", x.days(1), 2);
        book(x, 0, 998, 0, -1, 0);
        book(x, 1, 999, 2, 0, 0);
        book(x, 2, 999, 3, 0, 0);
        Due.is("36: DAY", x.look(2), 1000);
    }

    /** "Then LIKING of each MULE that is BEHIND one for him is one less (0 at least); DAY one more." */
    private static void likingBehindOneGoesDownTo0() {
        MuleVote x = train(4, 2);
        Due.tell(x, 0, "lean 100-liking;need 71;");
        x.like(0, 1, 2);
        x.like(1, 1, 1);
        x.like(2, 1, 0);
        x.vote();
        x.set(2, 0, 1);
        Due.is("17: three are BEHIND him", x.manOf(1, 3), 7);
        x.days(1);
        Due.is("11: 2, and LAME since", x.of(0, 11), 1);
        Due.is("11: 1", x.of(1, 11), 0);
        Due.is("11: 0 at least", x.of(2, 11), 0);
        Due.is("11: BEHIND none", x.of(3, 11), 30);
        Due.is("11: for him alone", x.of(0, 10), 30);
        x.days(2);
        Due.is("11: 0 at least", x.of(0, 11), 0);
        Due.is("36: DAY", x.look(2), 3);
        MuleVote y = train(1, 1);
        y.like(0, 0, 40);
        Due.tell(y, 2, "on 0 vote;");
        y.days(1);
        Due.is("11: BEHIND him since this DAY", y.of(0, 10), 39);
    }

    /** "(150 lines; no more then)" */
    private static void theBookHas150Lines() {
        MuleVote x = train(2, 1);
        Due.tell(x, 3, "path 0 1 hours 3;");
        Due.tell(x, 0, "lean 99;risk 1000;");
        for (int i = 0; i < 148; i++) {
            x.rest();
        }
        x.vote();
        Due.is("36: lines", x.look(9), 149);
        Due.is("19: the 150th is not yet", x.book(149, 1), -2);
        Due.is("9: done even so", x.go(1), 2);
        Due.is("36: lines", x.look(9), 150);
        book(x, 149, 0, 4, 1, 3);
        Due.is("19: no 151st", x.book(150, 1), -2);
        Due.is("10: done even so", x.rest(), 2);
        Due.is("7: done even so", x.vote(), 0);
        Due.is("36: lines", x.look(9), 150);
        book(x, 149, 0, 4, 1, 3);
        Due.is("36: what can be undone", x.look(17), 6);
        for (int i = 0; i < 3; i++) {
            Due.is("34: undo", x.undo(), true);
        }
        Due.is("34: THE BOOK goes back", x.look(9), 149);
        Due.is("19: the 150th is not any more", x.book(149, 1), -2);
        x.act(1, 0, 0);
        book(x, 149, 0, 2, 0, 0);
    }

    /** "DAY, what (..), who (..), which (..)" */
    private static void aLineOfTheBookForEach() {
        MuleVote x = train(3, 2);
        Due.tell(x, 3, "path 0 9 hours 24;");
        Due.tell(x, 0, "risk 1000 when mule=2;risk 0;");
        x.days(5);
        x.act(0, 1, 2);
        x.act(1, 1, 2);
        x.act(2, 0, 1);
        x.vote();
        x.go(9);
        x.rest();
        x.like(2, 1, 0);
        x.vote();
        int[][] lines = {{5, 1, 1, 2}, {5, 2, 1, 0}, {5, 3, 0, 1}, {5, 0, 1, 1}, {5, 4, 9, 24}, {5, 5, 2, 0}, {5, 6, -1, 0}, {5, 0, -1, 0}};
        for (int i = 0; i < lines.length; i++) {
            book(x, i, lines[i]);
        }
        Due.is("36: lines", x.look(9), lines.length);
    }
}
