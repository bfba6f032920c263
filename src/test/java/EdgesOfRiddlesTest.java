/** Promises 28 to 33 at their edges: a test for each sentence of the document that names one. */
public final class EdgesOfRiddlesTest {
    private static final int LEAST = Integer.MIN_VALUE;
    private static final int MOST = Integer.MAX_VALUE;

    public static void main(String[] args) {
        upTo12Told();
        noneForgetsWhatWasSeen();
        seenOfThoseThatThereAre();
        thresholdsAre0To99();
        asNow();
        contrarySights();
        asksByMuleThenMan();
        asksWhatPartsBest();
        fewerThanTwoFit();
        askedAlone();
        ledWithinTheBits();
        ledDownwardsEachTime();
        ledByTheLikeliest();
        theLastOneOfAllWins();
        gamesOfTwoMen();
        gamesOfMore();
        leftOfSeveralTheFewest();
        sharesOfASum();
        whatIsLeftGoesToTheFirst();
        meetsAtOnce();
        meetsIn99Hours();
        meetsNeverBetweenCamps();
        meetsByTheFirstLine();
        Due.end("EdgesOfRiddlesTest");
    }

    private static MuleVote train(int mules, int men) {
        return ActsTest.train(mules, men);
    }

    /** "up to 12 told" "how many" */
    private static void upTo12Told() {
        MuleVote x = train(2, 2);
        x.vote();
        for (int i = 1; i <= 12; i++) {
            Due.is("28: seen " + i, x.seen(i % 2, i / 2 % 2, false), i);
            Due.is("36: look(16)", x.look(16), i);
        }
        Due.is("28: the 13th", x.seen(0, 0, true), -1);
        Due.is("36: look(16)", x.look(16), 12);
        Due.is("29: the 13th is not told", x.fits(0), 69);
        Due.is("34: SEEN forgets nothing", x.look(17), 1);
        Due.is("34: undo", x.undo(), true);
        Due.is("34: SEEN does not go back", x.look(16), 12);
    }

    /** "(mule NONE: nothing is then)" */
    private static void noneForgetsWhatWasSeen() {
        MuleVote x = train(2, 2);
        for (int man : new int[] {LEAST, -1, 0, 1, 2, MOST}) {
            x.seen(0, 0, false);
            x.seen(1, 1, false);
            Due.is("28: seen(-1, " + man + ")", x.seen(-1, man, man == 0), 0);
            Due.is("36: look(16)", x.look(16), 0);
            Due.is("29: all fit", x.fits(0), 100);
        }
        Due.is("28: of none", x.seen(-1, 0, true), 0);
        for (int i = 0; i < 12; i++) {
            x.seen(0, 0, true);
        }
        Due.is("28: of twelve", x.seen(-1, 0, true), 0);
        Due.is("28: the first again", x.seen(1, 0, true), 1);
    }

    /** "NONE if one can't be" */
    private static void seenOfThoseThatThereAre() {
        MuleVote x = train(2, 3);
        for (int mule : new int[] {LEAST, -2, 2, 12, MOST}) {
            Due.is("28: seen(" + mule + ", 0)", x.seen(mule, 0, false), -1);
        }
        for (int man : new int[] {LEAST, -1, 3, 5, MOST}) {
            Due.is("28: seen(0, " + man + ")", x.seen(0, man, false), -1);
        }
        Due.is("36: look(16)", x.look(16), 0);
        Due.is("29: none is told", x.fits(0), 100);
        Due.is("28: the last ones", x.seen(1, 2, false), 1);
    }

    /** "thresholds k (0 .. 99) by which all SEEN are so: it stood, if LIKING is k at least" */
    private static void thresholdsAre0To99() {
        int[][] dues = {{0, 1, 0, 99, 1}, {1, 2, 0, 98, 2}, {50, 51, 0, 49, 51}, {98, 99, 0, 1, 99}, {99, 100, 0, 0, -1}};
        for (int[] d : dues) {
            MuleVote x = train(1, 1);
            x.like(0, 0, d[0]);
            x.seen(0, 0, true);
            Due.is("29: it stood at " + d[0] + ": how many", x.fits(0), d[1]);
            Due.is("29: it stood at " + d[0] + ": the least", x.fits(1), d[2]);
            x.seen(-1, 0, true);
            x.seen(0, 0, false);
            Due.is("29: it did not stand at " + d[0] + ": how many", x.fits(0), d[3]);
            Due.is("29: it did not stand at " + d[0] + ": the least", x.fits(1), d[4]);
        }
        MuleVote x = new MuleVote();
        for (int what : new int[] {LEAST, -2, -1, 4, 5, MOST}) {
            Due.is("29: fits(" + what + ")", x.fits(what), -1);
        }
    }

    /** "as now": by the LIKING that is, not that was. */
    private static void asNow() {
        MuleVote x = train(1, 1);
        x.like(0, 0, 50);
        x.seen(0, 0, true);
        x.like(0, 0, 20);
        Due.is("29: 0 to 20", x.fits(0), 21);
        x.act(0, 0, 0);
        Due.is("29: 0 to 35", x.fits(0), 36);
        x.undo();
        Due.is("29: 0 to 20", x.fits(0), 21);
    }

    private static void contrarySights() {
        MuleVote x = train(2, 1);
        x.like(0, 0, 50);
        x.like(1, 0, 51);
        x.seen(0, 0, false);
        x.seen(1, 0, true);
        Due.is("29: one", x.fits(0), 1);
        Due.is("29: 51", x.fits(1), 51);
        Due.is("29: one is too few", x.fits(2), -1);
        Due.is("29: one is too few", x.fits(3), -1);
        x.seen(0, 0, true);
        Due.is("29: none", x.fits(0), 0);
        Due.is("29: none", x.fits(1), -1);
        Due.is("29: none is too few", x.fits(2), -1);
    }

    /** "MULE and MAN (by MULE, then MAN)" */
    private static void asksByMuleThenMan() {
        MuleVote x = train(3, 3);
        Due.is("29: all part alike: the MULE", x.fits(2), 0);
        Due.is("29: all part alike: the MAN", x.fits(3), 0);
        x.like(2, 0, 49);
        x.like(1, 2, 49);
        x.like(1, 1, 49);
        Due.is("29: three of 50 and 50: the MULE", x.fits(2), 1);
        Due.is("29: three of 50 and 50: the MAN", x.fits(3), 1);
        x.like(1, 1, 48);
        Due.is("29: 49 and 51: the MAN", x.fits(3), 2);
        x.like(1, 1, 50);
        Due.is("29: 51 and 49: the MAN", x.fits(3), 2);
        x.like(0, 2, 49);
        Due.is("29: the MULE", x.fits(2), 0);
        Due.is("29: the MAN", x.fits(3), 2);
    }

    /** "the greater number of those at it or below, and those above, is least" */
    private static void asksWhatPartsBest() {
        MuleVote x = train(2, 3);
        x.like(0, 0, 10);
        x.like(0, 1, 20);
        x.like(0, 2, 14);
        x.like(1, 0, 16);
        x.like(1, 1, 9);
        x.like(1, 2, 0);
        x.seen(0, 0, false);
        x.seen(0, 1, true);
        Due.is("29: 11 to 20", x.fits(0), 10);
        Due.is("29: 11 .. 14 and 15 .. 20, or 11 .. 16 and 17 .. 20: the MULE", x.fits(2), 0);
        Due.is("29: the MAN", x.fits(3), 2);
        x.like(1, 2, 15);
        Due.is("29: 11 .. 15 and 16 .. 20: the MULE", x.fits(2), 1);
        Due.is("29: the MAN", x.fits(3), 2);
        MuleVote y = train(2, 1);
        y.like(0, 0, 99);
        y.like(1, 0, 0);
        Due.is("29: 100 and 0, or 1 and 99", y.fits(2), 1);
        y.like(1, 0, 99);
        Due.is("29: none parts them: the first", y.fits(2), 0);
        Due.is("29: none parts them: the first", y.fits(3), 0);
    }

    /** "(NONE: fewer than two fit, no MULES or MEN)" */
    private static void fewerThanTwoFit() {
        for (int liking = 0; liking <= 2; liking++) {
            MuleVote x = train(1, 1);
            x.like(0, 0, liking);
            x.seen(0, 0, true);
            Due.is("29: " + (liking + 1) + " fit: the MULE", x.fits(2), liking == 0 ? -1 : 0);
            Due.is("29: " + (liking + 1) + " fit: the MAN", x.fits(3), liking == 0 ? -1 : 0);
            x.like(0, 0, 97 + liking);
            x.seen(-1, 0, true);
            x.seen(0, 0, false);
            Due.is("29: " + (2 - liking) + " fit: the MULE", x.fits(2), liking == 0 ? 0 : -1);
            Due.is("29: " + (2 - liking) + " fit: the MAN", x.fits(3), liking == 0 ? 0 : -1);
        }
        for (int what = 2; what <= 3; what++) {
            Due.is("29: nobody", train(0, 0).fits(what), -1);
            Due.is("29: no MEN", train(12, 0).fits(what), -1);
            Due.is("29: no MULES", train(0, 5).fits(what), -1);
        }
    }

    /** Each what is answered as it is now, though no other what was asked before, or another one then. */
    private static void askedAlone() {
        int[] dues = {100, 0, 0, 0};
        for (int what = 0; what <= 3; what++) {
            Due.is("29: fits(" + what + ")", train(1, 1).fits(what), dues[what]);
        }
        int[] told = {60, 20, 0, 0};
        int[] then = {100, 0, 0, 1};
        for (int what = 0; what <= 3; what++) {
            MuleVote x = train(1, 2);
            x.like(0, 0, 19);
            x.like(0, 1, 79);
            x.fits(what);
            x.seen(0, 0, false);
            x.seen(0, 1, true);
            x.like(0, 1, what < 2 ? 79 : 50);
            Due.is("29: fits(" + what + ")", x.fits(what), told[what]);
            x.seen(-1, 0, true);
            Due.is("29: fits(" + what + ")", x.fits(what), then[what]);
        }
    }

    /** "NONE if there are no MEN, one can't be (bits beyond MULES), or another what." "hours h (1 .. 24)" */
    private static void ledWithinTheBits() {
        for (int mules : new int[] {0, 1, 5, 12}) {
            MuleVote x = train(mules, 1);
            Due.tell(x, 0, "risk 1000;");
            int all = (1 << mules) - 1;
            Due.is("30: all", x.led(all, 1, 1), 1000000);
            Due.is("30: all", x.led(all, 24, 0), 0);
            Due.is("30: none", x.led(0, 24, 1), mules == 0 ? 1000000 : 0);
            for (int lame : new int[] {LEAST, -1, all + 1, all + 2, 1 << 12, 1 << 30, MOST}) {
                Due.is("30: led(" + lame + ", 5, 1)", x.led(lame, 5, 1), -1);
                Due.is("30: led(" + lame + ", 5, 0)", x.led(lame, 5, 0), -1);
            }
            for (int h : new int[] {LEAST, -1, 0, 25, MOST}) {
                Due.is("30: led(0, " + h + ", 1)", x.led(0, h, 1), -1);
            }
            for (int what : new int[] {LEAST, -1, 2, 3, MOST}) {
                Due.is("30: led(0, 5, " + what + ")", x.led(0, 5, what), -1);
            }
            MuleVote y = train(mules, 0);
            Due.is("30: no MEN", y.led(0, 5, 0), -1);
            Due.is("30: no MEN", y.led(0, 5, 1), -1);
        }
    }

    /** "a million; of each MULE (LAME now or not) times its risk .. else times 1000 less it, by 1000, downwards each time" */
    private static void ledDownwardsEachTime() {
        for (int risk : new int[] {0, 1, 3, 333, 500, 667, 997, 999, 1000}) {
            MuleVote x = train(4, 1);
            Due.tell(x, 0, "risk " + risk + ";");
            for (int set = 0; set < 16; set++) {
                long likely = 1000000;
                for (int m = 0; m < 4; m++) {
                    likely = likely * ((set >> m & 1) != 0 ? risk : 1000 - risk) / 1000;
                }
                Due.is("30: risk " + risk + ", set " + set, x.led(set, 7, 1), likely);
            }
            x.set(2, 0, 1);
            x.set(2, 3, 1);
            long all = 1000000;
            for (int m = 0; m < 4; m++) {
                all = all * risk / 1000;
            }
            Due.is("30: LAME now or not", x.led(15, 7, 1), all);
        }
    }

    /** "by a MAN", "the MAN for whom it is likeliest (of several the least)" */
    private static void ledByTheLikeliest() {
        MuleVote x = train(2, 5);
        Due.tell(x, 0, "risk hand*100+hours;");
        Due.is("30: none goes LAME: the least HAND", x.led(0, 24, 0), 0);
        Due.is("30: 976 and 976", x.led(0, 24, 1), 952576);
        Due.is("30: all go LAME: the greatest HAND", x.led(3, 24, 0), 4);
        Due.is("30: 424 and 424", x.led(3, 24, 1), 179776);
        Due.is("30: one goes LAME: next to a half", x.led(1, 24, 0), 4);
        Due.tell(x, 0, "risk 300 when hand=0;risk 400 when hand=4;risk 500;");
        Due.is("30: of three the least", x.led(1, 5, 0), 1);
        Due.tell(x, 0, "risk 0;");
        Due.is("30: likely for none: the least", x.led(1, 5, 0), 0);
        Due.is("30: likely for none", x.led(1, 5, 1), 0);
        x.like(0, 3, 99);
        Due.tell(x, 0, "risk hand*100;");
        x.vote();
        Due.is("30: whoever drives now", x.led(3, 5, 0), 4);
    }

    private static MuleVote salts(int... salts) {
        MuleVote x = new MuleVote();
        for (int s : salts) {
            x.man(s, 0, 0);
        }
        return x;
    }

    private static void game(int man, int left, int... salts) {
        MuleVote x = salts(salts);
        Due.is("31: the MAN of " + java.util.Arrays.toString(salts), x.game(0), man);
        Due.is("31: how many are left of " + java.util.Arrays.toString(salts), x.game(1), left);
    }

    /** "from one MAN's SALT two by turns take one, or half of what he has (upwards); who takes the last one of all wins" */
    private static void theLastOneOfAllWins() {
        boolean[] won = new boolean[100];
        for (int has = 0; has < 100; has++) {
            int left = -1;
            if (has > 0 && !won[has - 1]) {
                left = has - 1;
            }
            if (has > 0 && !won[has - (has + 1) / 2]) {
                left = has - (has + 1) / 2;
            }
            won[has] = left >= 0;
            game(left < 0 ? -1 : 0, left, has);
        }
        game(-1, -1);
        game(0, 0, 1);
        game(-1, -1, 2);
        game(0, 2, 3);
        game(0, 2, 4);
        game(0, 2, 5);
        MuleVote x = salts(1);
        for (int what : new int[] {LEAST, -1, 2, 3, MOST}) {
            Due.is("31: game(" + what + ")", x.game(what), -1);
        }
    }

    private static void gamesOfTwoMen() {
        boolean[][] won = new boolean[100][100];
        for (int a = 0; a < 100; a++) {
            for (int b = 0; b < 100; b++) {
                int[] due = {-1, -1};
                int[][] thens = {{1, b, b / 2}, {1, b, b - 1}, {0, a, a / 2}, {0, a, a - 1}};
                for (int i = 3; i >= 0; i--) {
                    int man = i < 2 ? 1 : 0;
                    int has = thens[i][1];
                    int left = thens[i][2];
                    boolean wins = has > 0 && !(man == 0 ? won[left][b] : won[a][left]);
                    boolean better = due[0] < 0 || man < due[0] || man == due[0] && left < due[1];
                    if (wins && better) {
                        due = new int[] {man, left};
                    }
                }
                won[a][b] = due[0] >= 0;
                if (a < 10 || b < 10 || a > 96 || b > 96 || (a + b) % 13 == 0) {
                    game(due[0], due[1], a, b);
                }
            }
        }
    }

    private static void gamesOfMore() {
        game(-1, -1, 0, 0, 0, 0, 0);
        game(4, 0, 0, 0, 0, 0, 1);
        game(-1, -1, 1, 0, 0, 0, 1);
        game(0, 0, 1, 1, 1, 0, 0);
        game(0, 0, 1, 1, 1, 1, 1);
        game(-1, -1, 7, 7, 8, 8, 0);
        game(0, 6, 7, 7, 8, 8, 1);
        game(-1, -1, 99, 99, 99, 99, 2);
        for (int i = 0; i < 512; i++) {
            int[] salts = {i % 8, i / 8 % 8, i / 64};
            int[] due = {-1, -1};
            for (int man = 0; man < 3 && due[0] < 0; man++) {
                for (int left = 0; left < salts[man] && due[0] < 0; left++) {
                    if (mayLeave(salts[man], left) && !isWon(with(salts, man, left))) {
                        due = new int[] {man, left};
                    }
                }
            }
            game(due[0], due[1], salts);
        }
    }

    private static boolean mayLeave(int has, int left) {
        return has - left == 1 || has - left == (has + 1) / 2;
    }

    private static int[] with(int[] salts, int man, int left) {
        int[] then = salts.clone();
        then[man] = left;
        return then;
    }

    /** Whether who takes next wins, tried out to the end. */
    private static boolean isWon(int[] salts) {
        for (int man = 0; man < salts.length; man++) {
            for (int left = 0; left < salts[man]; left++) {
                if (mayLeave(salts[man], left) && !isWon(with(salts, man, left))) {
                    return true;
                }
            }
        }
        return false;
    }

    /** "(of several the least) .. (of several the fewest)" */
    private static void leftOfSeveralTheFewest() {
        game(0, 0, 1, 1, 1);
        game(0, 2, 3, 2);
        game(0, 2, 4, 0);
        game(0, 1, 2, 4, 2);
        game(1, 2, 0, 4, 2);
        game(1, 0, 0, 1);
    }

    /** "of a sum (0 .. 9999)" "what a MULE gets; NONE if one can't be" */
    private static void sharesOfASum() {
        MuleVote x = train(3, 0);
        for (int sum : new int[] {0, 1, 9999}) {
            for (int mule = 0; mule < 3; mule++) {
                Due.is("32: none is heeded", x.share(sum, mule), 0);
            }
        }
        Due.tell(x, 1, "mule 0 heeds 2;");
        int[] sums = {0, 1, 2, 9998, 9999};
        for (int sum : sums) {
            Due.is("32: one is heeded", x.share(sum, 2), sum);
            Due.is("32: the others are not", x.share(sum, 0), 0);
        }
        for (int sum : new int[] {LEAST, -1, 10000, MOST}) {
            Due.is("32: share(" + sum + ", 2)", x.share(sum, 2), -1);
        }
        for (int mule : new int[] {LEAST, -1, 3, 12, MOST}) {
            Due.is("32: share(5, " + mule + ")", x.share(5, mule), -1);
        }
        MuleVote y = train(12, 0);
        Due.tell(y, 1, "mule 0 heeds 11;mule 1 heeds 11;mule 2 heeds 11 and 0 and 11;mule 2 heeds 11;mule 11 heeds 0;");
        Due.is("32: three of five, told twice once", y.share(9999, 11), 5999);
        Due.is("32: two of five, and one that is left", y.share(9999, 0), 4000);
        Due.is("32: LAME or not", y.set(2, 11, 1), true);
        Due.is("32: three of five", y.share(9999, 11), 5999);
    }

    /** "parts downwards, what is left one each to the first ones that are heeded" */
    private static void whatIsLeftGoesToTheFirst() {
        MuleVote x = train(6, 0);
        Due.tell(x, 1, "mule 0 heeds 1;mule 1 heeds 3;mule 2 heeds 5;mule 3 heeds 5;");
        int[][] dues = {{0, 0, 0, 0}, {1, 1, 0, 0}, {2, 1, 0, 1}, {3, 1, 1, 1}, {4, 1, 1, 2}, {5, 2, 1, 2}, {6, 2, 1, 3}, {7, 2, 2, 3}, {8, 2, 2, 4}};
        for (int[] d : dues) {
            Due.is("32: not heeded, of " + d[0], x.share(d[0], 0), 0);
            Due.is("32: the first heeded, of " + d[0], x.share(d[0], 1), d[1]);
            Due.is("32: not heeded, of " + d[0], x.share(d[0], 2), 0);
            Due.is("32: the second heeded, of " + d[0], x.share(d[0], 3), d[2]);
            Due.is("32: the third, heeded by two, of " + d[0], x.share(d[0], 5), d[3]);
        }
    }

    /** "behind how many hours (0 .. 99)": 0 for one CAMP. "NONE .. one can't be" */
    private static void meetsAtOnce() {
        MuleVote x = new MuleVote();
        Due.tell(x, 3, "path 0 1 hours 5;path 1 0 hours 5;");
        for (int camp = 0; camp < 10; camp++) {
            Due.is("33: from the same CAMP", x.meets(camp, camp), 0);
        }
        for (int camp : new int[] {LEAST, -1, 10, MOST}) {
            Due.is("33: meets(" + camp + ", 0)", x.meets(camp, 0), -1);
            Due.is("33: meets(0, " + camp + ")", x.meets(0, camp), -1);
            Due.is("33: meets(" + camp + ", " + camp + ")", x.meets(camp, camp), -1);
        }
        Due.is("33: never", x.meets(2, 3), -1);
        Due.is("33: always past each other", x.meets(0, 1), -1);
    }

    /** "(0 .. 99)" "NONE if never" */
    private static void meetsIn99Hours() {
        int[] lasts = {1, 2, 3, 4};
        for (int last : lasts) {
            MuleVote x = new MuleVote();
            Due.tell(x, 3, "path 0 1 hours 24;path 1 2 hours 24;path 2 3 hours 24;path 3 4 hours 24;path 4 5 hours " + last + ";");
            Due.is("33: " + (96 + last) + " hours", x.meets(0, 5), last <= 3 ? 96 + last : -1);
            Due.is("33: " + (96 + last) + " hours", x.meets(5, 0), last <= 3 ? 96 + last : -1);
        }
        MuleVote x = new MuleVote();
        Due.tell(x, 3, "path 0 1 hours 24;path 1 0 hours 24;path 2 0 hours 1;path 3 0 hours 24;path 4 1 hours 24;");
        Due.is("33: one hour late for ever", x.meets(0, 2), -1);
        Due.is("33: behind 24 hours at 0, when that one is at 1", x.meets(0, 3), -1);
        Due.is("33: behind 24 hours at 1", x.meets(0, 4), 24);
        Due.tell(x, 3, "path 0 1 hours 1;path 1 0 hours 1;path 2 3 hours 1;path 3 2 hours 2;path 4 0 hours 24;path 5 1 hours 1;");
        Due.is("33: behind 24 hours", x.meets(0, 4), 24);
        Due.is("33: behind 1 hour", x.meets(0, 5), 1);
        Due.is("33: never", x.meets(0, 2), -1);
    }

    /** "(between CAMPS they are at none)" */
    private static void meetsNeverBetweenCamps() {
        MuleVote x = new MuleVote();
        Due.tell(x, 3, "path 0 1 hours 4;path 1 0 hours 4;path 2 0 hours 2;path 3 1 hours 3;");
        Due.is("33: midway is no CAMP", x.meets(0, 1), -1);
        Due.is("33: two hours apart for ever", x.meets(0, 2), -1);
        Due.is("33: one hour apart for ever", x.meets(1, 3), -1);
        Due.tell(x, 3, "path 0 1 hours 3;path 2 1 hours 1;path 1 3 hours 2;path 3 1 hours 2;");
        Due.is("33: it comes when that one is away", x.meets(0, 2), -1);
    }

    /** "each goes on at each CAMP at once along the first line of PATHS from there (none: it stays)" */
    private static void meetsByTheFirstLine() {
        MuleVote x = new MuleVote();
        Due.tell(x, 3, "path 0 1 hours 3;path 0 2 hours 1;path 3 2 hours 1;path 3 1 hours 3;");
        Due.is("33: one at 1, one at 2", x.meets(0, 3), -1);
        Due.is("33: it stays at 1", x.meets(0, 1), 3);
        Due.is("33: it stays at 2", x.meets(2, 3), 1);
        Due.tell(x, 3, "path 0 1 hours 3;path 1 2 hours 2;path 3 1 hours 5;");
        Due.is("33: it does not wait at 1, but both come to 2", x.meets(0, 3), 7);
        Due.tell(x, 3, "path 0 1 hours 3;path 1 2 hours 2;path 3 2 hours 9;");
        Due.is("33: both stay at 2", x.meets(0, 3), 9);
    }
}
