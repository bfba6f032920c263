/** Promises 20 to 27 at their edges: a test for each sentence of the document that names one. */
public final class EdgesOfThoughtTest {
    private static final int LEAST = Integer.MIN_VALUE;
    private static final int MOST = Integer.MAX_VALUE;
    private static final int[] WILD = {LEAST, -2, -1, 2, 3, MOST};

    public static void main(String[] args) {
        nothingOfItStays();
        standsByAVoteNow();
        settlesInRounds();
        goesForOneDayTo60();
        goesWithoutDraws();
        goesBeyondTheLastDay();
        winsWithNoneOrAll();
        winsOfSeveralTheLeast();
        winsByTheFewest();
        winsOnlyByMulesThatStand();
        winsByOneAlone();
        winsWith99AtMost();
        winsWhoeverHasSalt();
        turnsIfItEndsOtherwise();
        waysBetweenCamps();
        nextCampOfSeveralTheLeast();
        theLongestWay();
        surestByTheGreatestRisk();
        packsUpToStrong();
        packsEachLoadByOne();
        packsOfSeveralTheLeast();
        packsEightLoads();
        rowsOfUnlikeMules();
        nothingOfAFormerAskingStays();
        Due.end("EdgesOfThoughtTest");
    }

    private static MuleVote train(int mules, int men) {
        return ActsTest.train(mules, men);
    }

    /** "(nothing of it stays ..)" */
    private static void nothingOfItStays() {
        MuleVote x = train(5, 3);
        x.like(0, 1, 60);
        x.like(3, 2, 60);
        Due.tell(x, 0, "risk 500;");
        Due.tell(x, 1, "mule 1 heeds 0;mule 2 heeds 3 and 1;");
        Due.tell(x, 2, "on 0 vote;on 0 salt 0 0;on 0 whip 1 2;on 1 sing 2;on 1 go 1;");
        Due.tell(x, 3, "path 0 1 hours 3;path 1 0 hours 2;");
        Due.tell(x, 4, "load 5 worth 5;load 6 worth 6;");
        x.vote();
        x.act(1, 1, 0);
        x.set(2, 4, 1);
        x.vote();
        String was = Whole.andUndo(x);
        for (int i = -2; i <= 61; i++) {
            x.stands(i);
            x.settles(i);
            x.goes(i, 0);
            x.goes(60, i);
            x.wins(i, 0);
            x.wins(0, i);
            x.turnsBy(i);
            x.way(0, i, 2);
            x.packs(i);
            x.row();
            x.fits(i);
            x.led(i, 3, 0);
            x.game(i);
            x.share(i, 0);
            x.meets(0, i);
            Due.is("20: nothing stays of " + i, Whole.andUndo(x).equals(was), true);
        }
    }

    /** "BEHIND whom; NONE for none, NONE - 1 if there is no such MULE." */
    private static void standsByAVoteNow() {
        MuleVote x = train(12, 5);
        x.like(0, 4, 40);
        x.like(11, 0, 40);
        x.like(5, 2, 39);
        x.like(6, 2, 99);
        x.set(2, 6, 1);
        Due.is("20: the first MULE, the last MAN", x.stands(0), 4);
        Due.is("20: the last MULE, the first MAN", x.stands(11), 0);
        Due.is("20: for none", x.stands(5), -1);
        Due.is("20: LAME", x.stands(6), -1);
        for (int mule : new int[] {LEAST, -2, -1, 12, 13, MOST}) {
            Due.is("20: stands(" + mule + ")", x.stands(mule), -2);
        }
        x.vote();
        x.like(0, 4, 0);
        Due.is("20: by a VOTE now, not by the last one", x.stands(0), -1);
        Due.is("16: it is BEHIND him still", x.of(0, 3), 4);
        Due.is("20: without MEN", train(1, 0).stands(0), -1);
        Due.is("20: without MULES", train(0, 1).stands(0), -2);
    }

    /** "what 0 rounds, 1 DRIVER (NONE). NONE - 1 for another what." */
    private static void settlesInRounds() {
        MuleVote x = train(3, 2);
        Due.is("21: no round with a change", x.settles(0), 0);
        Due.is("21: no DRIVER", x.settles(1), -1);
        for (int what : WILD) {
            Due.is("21: settles(" + what + ")", x.settles(what), -2);
        }
        x.like(0, 1, 40);
        Due.is("21: one", x.settles(0), 1);
        Due.is("21: DRIVER", x.settles(1), 1);
        x.like(1, 0, 40);
        Due.is("21: one, though none wins", x.settles(0), 1);
        Due.is("21: no DRIVER", x.settles(1), -1);
        x.vote();
        Due.is("21: the same once more", x.settles(0), 1);
        for (int m = 0; m < 3; m++) {
            x.set(2, m, 1);
        }
        Due.is("21: all are LAME", x.settles(0), 0);
    }

    /** "GOES for n (1 .. 60) DAYS" "NONE - 1 if one can't be, or another what" */
    private static void goesForOneDayTo60() {
        MuleVote x = train(1, 1);
        x.like(0, 0, 99);
        Due.tell(x, 3, "path 0 1 hours 5;path 1 2 hours 7;");
        Due.tell(x, 2, "on 0 vote;on 0 go 1;on 59 go 2;on 60 vote;");
        for (int what = 0; what <= 3; what++) {
            for (int n : new int[] {LEAST, -1, 0, 61, MOST}) {
                Due.is("22: goes(" + n + ", " + what + ")", x.goes(n, what), -2);
            }
        }
        for (int what : new int[] {LEAST, -2, -1, 4, MOST}) {
            Due.is("22: goes(1, " + what + ")", x.goes(1, what), -2);
        }
        int[][] dues = {{1, 0, 1, 5, 0}, {59, 0, 1, 5, 0}, {60, 0, 2, 12, 0}};
        for (int[] d : dues) {
            for (int what = 0; what <= 3; what++) {
                Due.is("22: goes(" + d[0] + ", " + what + ")", x.goes(d[0], what), d[1 + what]);
            }
        }
        MuleVote y = train(1, 1);
        y.like(0, 0, 41);
        Due.tell(y, 2, "on 0 vote;on 1 vote;on 2 vote;on 3 vote;");
        Due.is("22: its LIKING goes down in thought too", y.goes(2, 0), 0);
        Due.is("22: till it leans too little", y.goes(3, 0), -1);
        Due.is("22: TIES", y.goes(3, 3), 1);
        Due.is("22: TIES", y.goes(4, 3), 2);
        Due.is("6: LIKING as it is", y.of(0, 10), 41);
    }

    /** "no DRAWS: none goes lame" */
    private static void goesWithoutDraws() {
        MuleVote x = train(3, 1);
        Due.tell(x, 0, "lean 99;risk 1000;");
        Due.tell(x, 3, "path 0 1 hours 5;path 1 0 hours 7;");
        Due.tell(x, 2, "on 0 vote;on 0 go 1;on 1 vote;on 1 go 0;");
        x.state(77);
        Due.is("22: HOURS", x.goes(2, 2), 12);
        Due.is("22: DRIVER", x.goes(2, 0), 0);
        Due.is("36: STATE", x.look(10), 77);
        Due.is("36: LAME", x.look(8), 0);
        x.set(2, 0, 1);
        x.set(2, 1, 1);
        x.set(2, 2, 1);
        Due.is("22: who is LAME stays so", x.goes(2, 0), -1);
        Due.is("22: nobody drives", x.goes(2, 2), 0);
    }

    /** Of GOES no DAY is told that would be too late. */
    private static void goesBeyondTheLastDay() {
        MuleVote x = train(1, 1);
        x.like(0, 0, 99);
        x.vote();
        for (int i = 0; i < 166; i++) {
            x.days(60);
        }
        x.days(39);
        Due.is("36: DAY", x.look(2), 9999);
        Due.is("22: DRIVER", x.goes(60, 0), 0);
        Due.is("22: CAMP", x.goes(1, 1), 0);
        Due.is("36: DAY", x.look(2), 9999);
    }

    /** "how many; the set" "NONE if by none, there is no such MAN, or another what" */
    private static void winsWithNoneOrAll() {
        for (int mules : new int[] {1, 2, 11, 12}) {
            MuleVote x = train(mules, 1);
            Due.is("23: one", x.wins(0, 0), 1);
            Due.is("23: the first one", x.wins(0, 1), 1);
            MuleVote y = train(mules, 2);
            for (int m = 0; m < mules; m++) {
                y.like(m, 1, 44);
            }
            Due.is("23: already", y.wins(1, 0), 0);
            Due.is("23: already", y.wins(1, 1), 0);
            Due.is("23: more than half", y.wins(0, 0), mules / 2 + 1);
            Due.is("23: the first ones", y.wins(0, 1), (1 << mules / 2 + 1) - 1);
            for (int m = 0; m < mules; m++) {
                y.like(m, 1, 45);
            }
            Due.is("23: 45 and 45: the least MAN", y.wins(0, 0), mules / 2 + 1);
            for (int m = 0; m < mules; m++) {
                y.like(m, 1, 46);
            }
            Due.is("23: by none", y.wins(0, 0), -1);
            Due.is("23: by none", y.wins(0, 1), -1);
        }
        MuleVote x = train(12, 3);
        Due.tell(x, 0, "need 45 when mule>3;need 0;lean 99 when mule<4 and hand=0;lean 50 when mule<8 and mule>3 and hand=2;lean liking;");
        Due.is("23: four to him, four to another one", x.wins(1, 0), -1);
        Due.tell(x, 0, "need 45 when mule>4;need 99 when mule=4;need 0;lean 99 when mule<5 and hand=0;lean liking;");
        Due.is("23: seven are to follow him", x.wins(1, 0), 6);
        Due.is("23: the least of them", x.wins(1, 1), 0b011111100000);
        for (int man : new int[] {LEAST, -1, 3, 5, MOST}) {
            Due.is("23: wins(" + man + ", 0)", x.wins(man, 0), -1);
            Due.is("23: wins(" + man + ", 1)", x.wins(man, 1), -1);
        }
        for (int what : WILD) {
            Due.is("23: wins(0, " + what + ")", x.wins(0, what), -1);
        }
        Due.is("23: nobody to give to", train(0, 1).wins(0, 0), -1);
    }

    /** "(of several the least)": as a number. */
    private static void winsOfSeveralTheLeast() {
        MuleVote x = train(4, 2);
        x.like(0, 0, 20);
        x.like(1, 0, 25);
        x.like(2, 0, 24);
        Due.is("23: one of the two whom it moves", x.wins(0, 0), 1);
        Due.is("23: the least", x.wins(0, 1), 2);
        x.set(2, 1, 1);
        Due.is("23: the other one", x.wins(0, 1), 8);
        Due.tell(x, 1, "mule 0 heeds 3;mule 2 heeds 3;");
        Due.is("23: the rest may follow", x.wins(0, 1), 8);
    }

    /** "the fewest MULES", though more of them make a lesser number. */
    private static void winsByTheFewest() {
        MuleVote x = train(5, 2);
        x.like(3, 1, 60);
        Due.is("23: two are needed", x.wins(0, 0), 2);
        Due.is("23: the first two", x.wins(0, 1), 3);
        Due.tell(x, 1, "mule 4 heeds 2;");
        Due.is("23: one whom another one follows", x.wins(0, 0), 1);
        Due.is("23: it alone", x.wins(0, 1), 4);
        MuleVote y = train(3, 2);
        y.like(0, 0, 15);
        y.like(1, 0, 60);
        y.like(2, 1, 60);
        y.like(2, 0, 0);
        Due.is("23: 15 and 15 are too few", y.wins(0, 0), -1);
        Due.tell(y, 1, "mule 0 heeds 1;");
        Due.is("23: 15 and 15, and one that it heeds", y.wins(0, 0), 1);
        Due.is("23: the set", y.wins(0, 1), 1);
        y.like(0, 0, 14);
        Due.is("23: 14 and 15, and one that it heeds", y.wins(0, 1), -1);
    }

    /** Salt to one that is LAME moves nothing. */
    private static void winsOnlyByMulesThatStand() {
        MuleVote x = train(3, 1);
        x.set(2, 0, 1);
        Due.is("23: the first that is not LAME", x.wins(0, 1), 2);
        x.set(2, 1, 1);
        Due.is("23: the first that is not LAME", x.wins(0, 1), 4);
        x.set(2, 2, 1);
        Due.is("23: all are LAME", x.wins(0, 1), -1);
        Due.is("23: all are LAME", x.wins(0, 0), -1);
    }

    /** Each MULE alone, each MAN, however much the LAME ones lean to whom. */
    private static void winsByOneAlone() {
        for (int m = 0; m < 12; m++) {
            MuleVote x = train(12, 5);
            for (int other = 0; other < 12; other++) {
                for (int man = 0; man < 5 && other != m; man++) {
                    x.like(other, man, 99);
                }
                x.set(2, other, other == m ? 0 : 1);
            }
            for (int man = 0; man < 5; man++) {
                Due.is("23: wins(" + man + ", 0) by " + m, x.wins(man, 0), 1);
                Due.is("23: wins(" + man + ", 1) by " + m, x.wins(man, 1), 1 << m);
            }
            Due.is("24: turnsBy(" + m + ")", x.turnsBy(m), 0);
            Due.is("21: no round", x.settles(0), 0);
        }
    }

    /** "a LIKING 0 .. 99": in thought too. */
    private static void winsWith99AtMost() {
        int[][] cases = {{84, 99, 1}, {85, 99, 1}, {83, 99, -1}, {98, 99, 1}, {84, 100, -1}, {99, 100, -1}, {90, 105, -1}, {99, 99, 0}};
        for (int[] c : cases) {
            MuleVote x = train(1, 1);
            x.like(0, 0, c[0]);
            Due.tell(x, 0, "need " + c[1] + ";");
            Due.is("23: LIKING " + c[0] + ", need " + c[1], x.wins(0, 0), c[2]);
        }
    }

    /** "(whoever has it ..)" */
    private static void winsWhoeverHasSalt() {
        MuleVote x = train(3, 2);
        x.set(3, 0, 0);
        x.set(3, 1, 0);
        x.like(2, 1, 60);
        Due.is("23: without any SALT", x.wins(0, 0), 2);
        Due.is("23: without any SALT", x.wins(0, 1), 3);
        Due.is("17: SALT", x.manOf(0, 0), 0);
    }

    /** "would end otherwise (another DRIVER, or one where there is none, or none): 1, else 0"; "NONE if there is no such MULE" */
    private static void turnsIfItEndsOtherwise() {
        MuleVote x = train(3, 2);
        x.like(0, 0, 50);
        Due.is("24: none instead of one", x.turnsBy(0), 1);
        Due.is("24: it stands BEHIND none", x.turnsBy(1), 0);
        x.like(1, 1, 50);
        Due.is("24: one instead of none", x.turnsBy(0), 1);
        Due.is("24: the other one instead of none", x.turnsBy(1), 1);
        x.like(2, 1, 30);
        Due.tell(x, 1, "mule 2 heeds 1;");
        Due.is("24: one that follows", x.turnsBy(2), 1);
        Due.is("24: another one: with it who follows it goes too", x.turnsBy(1), 1);
        Due.is("24: the same one", x.turnsBy(0), 0);
        x.set(2, 1, 1);
        Due.is("24: as if it were LAME, which it is", x.turnsBy(1), 0);
        for (int mule : new int[] {LEAST, -2, -1, 3, 12, MOST}) {
            Due.is("24: turnsBy(" + mule + ")", x.turnsBy(mule), -1);
        }
        MuleVote y = train(2, 2);
        y.like(0, 1, 60);
        y.vote();
        y.like(0, 1, 0);
        Due.is("24: beside a VOTE now, not the DRIVER of the last one", y.turnsBy(0), 0);
        Due.is("24: without MEN", train(1, 0).turnsBy(0), 0);
    }

    /** "NONE if there is none, one can't be (1: alike), or another what." */
    private static void waysBetweenCamps() {
        MuleVote x = train(1, 1);
        x.set(0, 0, 5);
        Due.tell(x, 3, "path 0 1 hours 5;path 1 9 hours 6;path 9 8 hours 7;path 8 9 hours 1;");
        int[][] dues = {{0, 1, 5, 1, 100}, {0, 9, 11, 1, 200}, {0, 8, 18, 1, 300}, {1, 8, 13, 9, 200}, {8, 9, 1, 9, 100}, {9, 8, 7, 8, 100},
            {1, 0, -1, -1, -1}, {9, 0, -1, -1, -1}, {2, 3, -1, -1, -1}, {0, 2, -1, -1, -1}};
        for (int[] d : dues) {
            for (int what = 0; what < 3; what++) {
                Due.is("25: way(" + d[0] + ", " + d[1] + ", " + what + ")", x.way(d[0], d[1], what), d[2 + what]);
            }
        }
        for (int camp = 0; camp < 10; camp++) {
            Due.is("25: alike", x.way(camp, camp, 0), 0);
            Due.is("25: alike", x.way(camp, camp, 1), -1);
            Due.is("25: alike", x.way(camp, camp, 2), 0);
        }
        for (int camp : new int[] {LEAST, -1, 10, MOST}) {
            for (int what = 0; what < 3; what++) {
                Due.is("25: way(" + camp + ", 1, " + what + ")", x.way(camp, 1, what), -1);
                Due.is("25: way(0, " + camp + ", " + what + ")", x.way(0, camp, what), -1);
                Due.is("25: way(" + camp + ", " + camp + ", " + what + ")", x.way(camp, camp, what), -1);
            }
        }
        for (int what : new int[] {LEAST, -1, 3, MOST}) {
            Due.is("25: way(0, 1, " + what + ")", x.way(0, 1, what), -1);
            Due.is("25: way(1, 1, " + what + ")", x.way(1, 1, what), -1);
        }
    }

    /** "the next CAMP (of several the least)" */
    private static void nextCampOfSeveralTheLeast() {
        MuleVote x = new MuleVote();
        Due.tell(x, 3, "path 5 7 hours 3;path 5 2 hours 5;path 5 9 hours 8;path 7 9 hours 5;path 2 9 hours 3;");
        Due.is("25: three ways of 8 hours", x.way(5, 9, 0), 8);
        Due.is("25: by the least CAMP", x.way(5, 9, 1), 2);
        Due.tell(x, 3, "path 5 0 hours 3;path 0 5 hours 1;path 5 4 hours 1;path 4 5 hours 1;path 5 9 hours 4;path 0 9 hours 1;");
        Due.is("25: to CAMP 0", x.way(5, 9, 1), 0);
        Due.tell(x, 3, "path 5 0 hours 3;path 0 9 hours 2;path 5 9 hours 4;");
        Due.is("25: straight there", x.way(5, 9, 1), 9);
        Due.is("25: hours", x.way(5, 9, 0), 4);
    }

    /** Nine PATHS one behind the other, told from the last one on. */
    private static void theLongestWay() {
        MuleVote x = train(1, 1);
        x.set(0, 0, 1);
        StringBuilder down = new StringBuilder();
        StringBuilder up = new StringBuilder();
        for (int i = 9; i > 0; i--) {
            down.append("path ").append(i).append(' ').append(i - 1).append(" hours 24;");
            up.append("path ").append(i - 1).append(' ').append(i).append(" hours 24;");
        }
        Due.tell(x, 3, down.toString());
        Due.is("25: hours", x.way(9, 0, 0), 216);
        Due.is("25: the next CAMP", x.way(9, 0, 1), 8);
        Due.is("25: SUREST", x.way(9, 0, 2), 180);
        Due.is("25: not back", x.way(0, 9, 0), -1);
        Due.tell(x, 3, up.toString());
        Due.is("25: hours", x.way(0, 9, 0), 216);
        Due.is("25: the next CAMP", x.way(0, 9, 1), 1);
        Due.is("25: SUREST", x.way(0, 9, 2), 180);
    }

    /** "the sum over its PATHS of the greatest risk of a MULE (not LAME) is least" */
    private static void surestByTheGreatestRisk() {
        MuleVote x = train(3, 2);
        Due.tell(x, 3, "path 0 1 hours 5;path 0 2 hours 2;path 2 1 hours 2;path 0 2 hours 1;");
        Due.tell(x, 0, "lean 99;risk hours*100 when mule=2;risk hours*10 when mule=1;risk hand*100;");
        Due.is("25: 200 and 200", x.way(0, 1, 2), 400);
        x.set(2, 2, 1);
        Due.is("25: not of a LAME one", x.way(0, 1, 2), 40);
        x.set(2, 1, 1);
        Due.is("25: without a DRIVER", x.way(0, 1, 2), 0);
        x.like(0, 1, 99);
        Due.tell(x, 0, "lean liking;risk hand*100;");
        x.vote();
        Due.is("25: by the DRIVER, straight there", x.way(0, 1, 2), 100);
        x.set(2, 0, 1);
        Due.is("25: none is left", x.way(0, 1, 2), 0);
        x.rest();
        Due.tell(x, 0, "risk 9999;");
        Due.is("25: held to 1000", x.way(0, 1, 2), 1000);
        Due.is("25: of one PATH", x.way(2, 1, 2), 1000);
    }

    private static MuleVote packers(int... strong) {
        MuleVote x = new MuleVote();
        for (int s : strong) {
            x.mule(s, 0);
        }
        return x;
    }

    private static void packs(MuleVote x, String loads, int worth, int set) {
        Due.tell(x, 4, loads);
        Due.is("26: worth of " + loads, x.packs(0), worth);
        Due.is("26: the set of " + loads, x.packs(1), set);
    }

    /** "each up to STRONG together" "MULES that are not LAME" "NONE for another what" */
    private static void packsUpToStrong() {
        packs(packers(), "load 1 worth 1;", 0, 0);
        packs(packers(40), "", 0, 0);
        packs(packers(5), "load 5 worth 7;", 7, 1);
        packs(packers(4), "load 5 worth 7;", 0, 0);
        packs(packers(40), "load 40 worth 99;", 99, 1);
        packs(packers(39), "load 40 worth 99;", 0, 0);
        packs(packers(1), "load 1 worth 1;load 1 worth 2;", 2, 2);
        packs(packers(5), "load 2 worth 1;load 3 worth 1;load 1 worth 1;", 2, 3);
        packs(packers(6), "load 2 worth 1;load 3 worth 1;load 1 worth 1;", 3, 7);
        MuleVote x = packers(40, 1);
        packs(x, "load 40 worth 9;load 1 worth 1;", 10, 3);
        x.set(2, 0, 1);
        packs(x, "load 40 worth 9;load 1 worth 1;", 1, 2);
        x.set(2, 1, 1);
        packs(x, "load 40 worth 9;load 1 worth 1;", 0, 0);
        for (int what : WILD) {
            Due.is("26: packs(" + what + ")", x.packs(what), -1);
        }
    }

    /** "each LOAD by one" */
    private static void packsEachLoadByOne() {
        packs(packers(5, 5), "load 6 worth 9;load 4 worth 1;", 1, 2);
        packs(packers(5, 5), "load 4 worth 3;load 4 worth 3;load 2 worth 3;", 6, 3);
        packs(packers(6, 4), "load 4 worth 3;load 4 worth 3;load 2 worth 3;", 9, 7);
        packs(packers(4, 6), "load 4 worth 3;load 4 worth 3;load 2 worth 3;", 9, 7);
        packs(packers(7, 7), "load 4 worth 3;load 3 worth 3;load 5 worth 3;load 2 worth 3;", 12, 15);
        packs(packers(1, 1, 1), "load 1 worth 3;load 1 worth 2;load 1 worth 4;load 1 worth 1;", 9, 7);
    }

    /** "the set (of several the least)": as a number. */
    private static void packsOfSeveralTheLeast() {
        packs(packers(5), "load 5 worth 4;load 5 worth 4;", 4, 1);
        packs(packers(5), "load 5 worth 3;load 5 worth 4;load 2 worth 1;load 3 worth 3;", 4, 2);
        packs(packers(5), "load 2 worth 1;load 3 worth 3;load 5 worth 4;", 4, 3);
        packs(packers(9), "load 9 worth 2;load 4 worth 1;load 5 worth 1;", 2, 1);
    }

    private static void packsEightLoads() {
        packs(packers(40), "load 5 worth 99;".repeat(8), 792, 255);
        packs(packers(39), "load 5 worth 99;".repeat(8), 693, 127);
        packs(packers(5, 5, 5, 5, 5, 5, 5, 5, 5, 5, 5, 5), "load 5 worth 99;".repeat(8), 792, 255);
        packs(packers(4, 4, 4, 4, 4, 4, 4, 4, 4, 4, 4, 5), "load 5 worth 1;".repeat(7) + "load 5 worth 99;", 99, 128);
    }

    private static void row(int mules, String heeds, int due) {
        MuleVote x = train(mules, 0);
        Due.tell(x, 1, heeds);
        Due.is("27: row of '" + heeds + "'", x.row(), due);
    }

    /** "the longest row of unlike MULES in which each heeds the next one" "how many MULES" */
    private static void rowsOfUnlikeMules() {
        row(0, "", 0);
        row(1, "", 1);
        row(12, "", 1);
        row(2, "mule 0 heeds 1;", 2);
        row(2, "mule 1 heeds 0;", 2);
        row(2, "mule 1 heeds 0;mule 0 heeds 1;", 2);
        row(3, "mule 0 heeds 1 and 2;", 2);
        row(3, "mule 0 heeds 1;mule 2 heeds 1;", 2);
        row(4, "mule 0 heeds 1;mule 1 heeds 2;mule 2 heeds 0;mule 3 heeds 1;", 4);
        row(4, "mule 0 heeds 1;mule 2 heeds 3;", 2);
        row(12, "mule 11 heeds 10;mule 10 heeds 9;mule 9 heeds 8;mule 8 heeds 7;mule 7 heeds 6;mule 6 heeds 5;"
                + "mule 5 heeds 4;mule 4 heeds 3;mule 3 heeds 2;mule 2 heeds 1;mule 1 heeds 0;", 12);
        row(12, "mule 0 heeds 1;mule 1 heeds 2;mule 2 heeds 3;mule 3 heeds 4;mule 4 heeds 5;mule 5 heeds 6;"
                + "mule 6 heeds 7;mule 7 heeds 8;mule 8 heeds 9;mule 9 heeds 10;mule 10 heeds 11;mule 11 heeds 0;", 12);
        row(12, "mule 0 heeds 1 and 2 and 3 and 4 and 5 and 6 and 7 and 8 and 9 and 10 and 11;", 2);
    }

    /** What was thought of before, of more MULES, MEN, heeding, LOADS or PATHS, is forgotten. */
    private static void nothingOfAFormerAskingStays() {
        MuleVote x = train(1, 1);
        x.image(true);
        x.man(0, 0, 0);
        x.mule(40, 0);
        x.like(0, 1, 99);
        x.like(1, 0, 99);
        Due.tell(x, 1, "mule 0 heeds 1;mule 1 heeds 0;");
        Due.tell(x, 3, "path 0 1 hours 1;path 1 2 hours 1;");
        Due.tell(x, 4, "load 40 worth 40;load 1 worth 1;");
        x.settles(0);
        x.wins(0, 0);
        x.wins(1, 0);
        x.turnsBy(1);
        Due.is("27: row", x.row(), 2);
        Due.is("26: packs", x.packs(0), 41);
        Due.is("25: way", x.way(0, 2, 0), 2);
        x.image(false);
        Due.is("21: rounds", x.settles(0), 0);
        Due.is("21: DRIVER", x.settles(1), -1);
        Due.is("20: stands", x.stands(0), -1);
        Due.is("24: turnsBy", x.turnsBy(0), 0);
        Due.is("23: wins", x.wins(0, 1), 1);
        Due.is("27: row", x.row(), 1);
        Due.is("26: packs", x.packs(0), 0);
        Due.is("25: way", x.way(0, 2, 0), -1);
        x.mule(1, 1);
        x.mule(1, 1);
        Due.tell(x, 1, "mule 0 heeds 1;mule 1 heeds 2;");
        Due.is("27: row", x.row(), 3);
        Due.tell(x, 1, "mule 0 heeds 1;");
        Due.is("27: row", x.row(), 2);
        Due.tell(x, 1, "");
        Due.is("27: row", x.row(), 1);
        Due.tell(x, 3, "path 0 1 hours 1;");
        Due.is("25: way", x.way(0, 1, 1), 1);
        Due.is("25: not back", x.way(1, 0, 0), -1);
        Due.is("25: SUREST", x.way(0, 1, 2), 0);
        Due.is("25: hours", x.way(0, 1, 0), 1);
    }
}
