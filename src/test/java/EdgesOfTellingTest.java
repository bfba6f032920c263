/** Promises 1 to 6 at their edges: a test for each sentence of the document that names one. */
public final class EdgesOfTellingTest {
    private static final int LEAST = Integer.MIN_VALUE;
    private static final int MOST = Integer.MAX_VALUE;

    public static void main(String[] args) {
        nobodyIsAsked();
        nobodyThinks();
        nobodyDoes();
        stateIsAnyInt();
        strongIs1To40();
        ageIs0To40();
        mulesAre0To11();
        saltIs0To99();
        handAndSongsAre0To9();
        menAre0To4();
        whatIs0To5();
        snowAndCampAre0To9();
        lameIs0Or1();
        aManIsSetWithinHisBounds();
        likingIs0To99();
        likingIs30AtFirst();
        Due.end("EdgesOfTellingTest");
    }

    /** "A new object: Nobody." */
    private static void nobodyIsAsked() {
        MuleVote x = new MuleVote();
        for (int what = -1; what <= 60; what++) {
            Due.is("1: of(0, " + what + ")", x.of(0, what), -2);
        }
        for (int what = -1; what <= 4; what++) {
            Due.is("1: manOf(0, " + what + ")", x.manOf(0, what), -1);
        }
        for (int b = 0; b < 10; b++) {
            Due.is("1: path(0, " + b + ")", x.path(0, b), -1);
            Due.is("1: meets(0, " + b + ")", x.meets(0, b), b == 0 ? 0 : -1);
            Due.is("1: way(0, " + b + ", 0)", x.way(0, b, 0), b == 0 ? 0 : -1);
            Due.is("1: way(0, " + b + ", 1)", x.way(0, b, 1), -1);
            Due.is("1: way(0, " + b + ", 2)", x.way(0, b, 2), b == 0 ? 0 : -1);
        }
    }

    private static void nobodyThinks() {
        MuleVote x = new MuleVote();
        Due.is("1: stands", x.stands(0), -2);
        Due.is("1: settles(0)", x.settles(0), 0);
        Due.is("1: settles(1)", x.settles(1), -1);
        int[] goes = {-1, 0, 0, 0};
        for (int what = 0; what < 4; what++) {
            Due.is("1: goes(60, " + what + ")", x.goes(60, what), goes[what]);
        }
        Due.is("1: wins", x.wins(0, 0), -1);
        Due.is("1: turnsBy", x.turnsBy(0), -1);
        Due.is("1: packs(0)", x.packs(0), 0);
        Due.is("1: packs(1)", x.packs(1), 0);
        Due.is("1: row", x.row(), 0);
        int[] fits = {100, 0, -1, -1};
        for (int what = 0; what < 4; what++) {
            Due.is("1: fits(" + what + ")", x.fits(what), fits[what]);
        }
        Due.is("1: led(0)", x.led(0, 1, 0), -1);
        Due.is("1: led(1)", x.led(0, 1, 1), -1);
        Due.is("1: game(0)", x.game(0), -1);
        Due.is("1: game(1)", x.game(1), -1);
        Due.is("1: share", x.share(1, 0), -1);
        Due.is("1: seen", x.seen(0, 0, true), -1);
    }

    private static void nobodyDoes() {
        MuleVote x = new MuleVote();
        for (int what = 0; what < 3; what++) {
            Due.is("1: act(" + what + ")", x.act(what, 0, 0), false);
        }
        Due.is("1: go", x.go(1), -1);
        Due.is("1: go where it is", x.go(0), -1);
        Due.is("1: nothing was done", x.look(17), 0);
        for (int k = 0; k < 5; k++) {
            Due.is("1: an empty TAPE is TEXT " + k, x.text(k), 0);
        }
        Due.is("1: days", x.days(1), 0);
        Due.is("1: rest", x.rest(), 0);
        Due.is("1: vote", x.vote(), -1);
        Due.is("1: a VOTE of nobody is not settled", x.look(6), 1);
        Due.is("1: its line", x.book(1, 2), -1);
        Due.is("1: three can be undone", x.look(17), 3);
    }

    /** "STATE is told: what it was." "an int, 0 at first" */
    private static void stateIsAnyInt() {
        MuleVote x = new MuleVote();
        int[] told = {LEAST, MOST, -1, 1, 0, LEAST};
        int was = 0;
        for (int v : told) {
            Due.is("2: state(" + v + ")", x.state(v), was);
            Due.is("2: look(10)", x.look(10), v);
            was = v;
        }
    }

    /** "STRONG 1 .. 40" "NONE if one can't be" */
    private static void strongIs1To40() {
        MuleVote x = new MuleVote();
        for (int strong : new int[] {LEAST, -1, 0, 41, 42, MOST}) {
            Due.is("3: mule(" + strong + ", 5)", x.mule(strong, 5), -1);
        }
        Due.is("3: none of them came", x.look(0), 0);
        Due.is("3: STRONG 1", x.mule(1, 5), 0);
        Due.is("3: STRONG 40", x.mule(40, 5), 1);
        Due.is("3: of(0, 0)", x.of(0, 0), 1);
        Due.is("3: of(1, 0)", x.of(1, 0), 40);
    }

    /** "AGE 0 .. 40" */
    private static void ageIs0To40() {
        MuleVote x = new MuleVote();
        for (int age : new int[] {LEAST, -1, 41, MOST}) {
            Due.is("3: mule(5, " + age + ")", x.mule(5, age), -1);
        }
        Due.is("3: AGE 0", x.mule(5, 0), 0);
        Due.is("3: AGE 40", x.mule(5, 40), 1);
        Due.is("3: of(0, 1)", x.of(0, 1), 0);
        Due.is("3: of(1, 1)", x.of(1, 1), 40);
        Due.is("3: neither can be", x.mule(0, 41), -1);
        Due.is("3: the next number", x.mule(5, 5), 2);
    }

    /** "MULES 0 .. 11 as they come" "NONE if .. there are twelve" */
    private static void mulesAre0To11() {
        MuleVote x = new MuleVote();
        for (int i = 0; i < 12; i++) {
            Due.is("3: a refused one takes no number", x.mule(0, 0), -1);
            Due.is("3: mule " + i, x.mule(i + 1, 40 - i), i);
        }
        x.vote();
        Due.is("3: there are twelve", x.mule(1, 1), -1);
        Due.is("3: what is refused forgets nothing", x.look(17), 1);
        Due.is("3: look(0)", x.look(0), 12);
        for (int i = 0; i < 12; i++) {
            Due.is("3: STRONG of " + i, x.of(i, 0), i + 1);
            Due.is("3: AGE of " + i, x.of(i, 1), 40 - i);
            Due.is("3: not LAME at first", x.of(i, 2), 0);
            Due.is("3: BEHIND none at first", x.of(i, 3), -1);
        }
        Due.is("3: no twelfth number", x.of(12, 0), -2);
    }

    /** "SALT 0 .. 99" */
    private static void saltIs0To99() {
        MuleVote x = new MuleVote();
        for (int salt : new int[] {LEAST, -1, 100, MOST}) {
            Due.is("4: man(" + salt + ", 1, 1)", x.man(salt, 1, 1), -1);
        }
        Due.is("4: none of them came", x.look(1), 0);
        Due.is("4: SALT 0", x.man(0, 1, 1), 0);
        Due.is("4: SALT 99", x.man(99, 1, 1), 1);
        Due.is("4: manOf(0, 0)", x.manOf(0, 0), 0);
        Due.is("4: manOf(1, 0)", x.manOf(1, 0), 99);
    }

    /** "HAND 0 .. 9, SONGS 0 .. 9" */
    private static void handAndSongsAre0To9() {
        MuleVote x = new MuleVote();
        for (int v : new int[] {LEAST, -1, 10, MOST}) {
            Due.is("4: man(1, " + v + ", 1)", x.man(1, v, 1), -1);
            Due.is("4: man(1, 1, " + v + ")", x.man(1, 1, v), -1);
        }
        Due.is("4: HAND 0, SONGS 9", x.man(1, 0, 9), 0);
        Due.is("4: HAND 9, SONGS 0", x.man(1, 9, 0), 1);
        Due.is("4: manOf(0, 1)", x.manOf(0, 1), 0);
        Due.is("4: manOf(0, 2)", x.manOf(0, 2), 9);
        Due.is("4: manOf(1, 1)", x.manOf(1, 1), 9);
        Due.is("4: manOf(1, 2)", x.manOf(1, 2), 0);
    }

    /** "MEN 0 .. 4 as they come" "NONE if .. there are five" */
    private static void menAre0To4() {
        MuleVote x = new MuleVote();
        for (int i = 0; i < 5; i++) {
            Due.is("4: a refused one takes no number", x.man(100, 0, 0), -1);
            Due.is("4: man " + i, x.man(10 * i, i, 9 - i), i);
        }
        x.vote();
        Due.is("4: there are five", x.man(1, 1, 1), -1);
        Due.is("4: what is refused forgets nothing", x.look(17), 1);
        Due.is("4: look(1)", x.look(1), 5);
        for (int i = 0; i < 5; i++) {
            Due.is("4: SALT of " + i, x.manOf(i, 0), 10 * i);
            Due.is("4: HAND of " + i, x.manOf(i, 1), i);
            Due.is("4: SONGS of " + i, x.manOf(i, 2), 9 - i);
        }
        Due.is("4: no fifth number", x.manOf(5, 0), -1);
    }

    /** A train at its fullest, in which each number is another one. */
    private static MuleVote full() {
        MuleVote x = new MuleVote();
        for (int i = 0; i < 12; i++) {
            x.mule(i + 1, i);
        }
        for (int i = 0; i < 5; i++) {
            x.man(i + 1, i + 2, i + 3);
        }
        x.set(0, 0, 3);
        x.set(1, 0, 4);
        x.vote();
        return x;
    }

    private static void refusesToSet(MuleVote x, int what, int who, int v) {
        String was = Whole.andUndo(x);
        Due.is("5: set(" + what + ", " + who + ", " + v + ")", x.set(what, who, v), false);
        Due.is("5: set(" + what + ", " + who + ", " + v + ") changes nothing", Whole.andUndo(x).equals(was), true);
    }

    /** "What 0 .. 5" "false if .. another what" */
    private static void whatIs0To5() {
        for (int what : new int[] {LEAST, -2, -1, 6, 7, MOST}) {
            refusesToSet(full(), what, 0, 0);
            refusesToSet(full(), what, 0, 1);
        }
    }

    /** "CAMPS 0 .. 9", "AT a CAMP", "SNOW 0 .. 9" "(who not asked)" */
    private static void snowAndCampAre0To9() {
        for (int what = 0; what <= 1; what++) {
            for (int v : new int[] {LEAST, -1, 10, MOST}) {
                refusesToSet(full(), what, 0, v);
            }
            MuleVote x = full();
            for (int v : new int[] {0, 9, 1, 8, 0}) {
                for (int who : new int[] {LEAST, -1, 0, 12, MOST}) {
                    Due.is("5: set(" + what + ", " + who + ", " + v + ")", x.set(what, who, v), true);
                    Due.is("5: look(" + (3 + what) + ")", x.look(3 + what), v);
                }
            }
            Due.is("5: the other one stays", x.look(4 - what), 4 - what);
        }
    }

    /** "LAME 0, 1" "2 LAME of MULE who" */
    private static void lameIs0Or1() {
        for (int v : new int[] {LEAST, -1, 2, MOST}) {
            refusesToSet(full(), 2, 11, v);
        }
        for (int who : new int[] {LEAST, -1, 12, MOST}) {
            refusesToSet(full(), 2, who, 1);
            refusesToSet(full(), 2, who, 0);
        }
        MuleVote x = full();
        Due.is("5: the last MULE is LAME", x.set(2, 11, 1), true);
        Due.is("5: the first MULE is LAME", x.set(2, 0, 1), true);
        Due.is("5: a LAME one is LAME", x.set(2, 0, 1), true);
        Due.is("5: look(8)", x.look(8), 1 << 11 | 1);
        Due.is("5: it is not any more", x.set(2, 11, 0), true);
        Due.is("5: look(8)", x.look(8), 1);
        Due.is("5: what is told of LAME is no line of THE BOOK", x.look(9), 1);
    }

    /** "3 SALT, 4 HAND, 5 SONGS of MAN who" */
    private static void aManIsSetWithinHisBounds() {
        int[] most = {99, 9, 9};
        for (int what = 3; what <= 5; what++) {
            for (int v : new int[] {LEAST, -1, most[what - 3] + 1, MOST}) {
                refusesToSet(full(), what, 4, v);
            }
            for (int who : new int[] {LEAST, -1, 5, MOST}) {
                refusesToSet(full(), what, who, 1);
            }
            MuleVote x = full();
            for (int who : new int[] {0, 4}) {
                for (int v : new int[] {0, most[what - 3]}) {
                    Due.is("5: set(" + what + ", " + who + ", " + v + ")", x.set(what, who, v), true);
                    Due.is("5: manOf(" + who + ", " + (what - 3) + ")", x.manOf(who, what - 3), v);
                }
            }
            Due.is("5: of another one it stays", x.manOf(3, what - 3), 4 + what - 3);
        }
    }

    /** "LIKING: true; false if one can't be." "a LIKING 0 .. 99" */
    private static void likingIs0To99() {
        int[][] bad = {{0, 0, LEAST}, {0, 0, -1}, {0, 0, 100}, {0, 0, MOST}, {LEAST, 0, 5}, {-1, 0, 5}, {12, 0, 5},
            {MOST, 0, 5}, {0, LEAST, 5}, {0, -1, 5}, {0, 5, 5}, {0, MOST, 5}};
        MuleVote x = full();
        for (int[] b : bad) {
            Due.is("6: like(" + b[0] + ", " + b[1] + ", " + b[2] + ")", x.like(b[0], b[1], b[2]), false);
        }
        Due.is("6: what is refused forgets nothing", x.look(17), 1);
        for (int m = 0; m < 12; m++) {
            for (int man = 0; man < 5; man++) {
                Due.is("6: no LIKING changed", x.of(m, 10 + man), 30);
            }
        }
        MuleVote y = full();
        for (int m : new int[] {0, 11}) {
            for (int man : new int[] {0, 4}) {
                for (int v : new int[] {0, 99, 1, 98}) {
                    Due.is("6: like(" + m + ", " + man + ", " + v + ")", y.like(m, man, v), true);
                    Due.is("6: LIKING", y.of(m, 10 + man), v);
                }
            }
        }
        Due.is("6: of another MULE it stays", y.of(10, 14), 30);
        Due.is("6: for another MAN it stays", y.of(11, 13), 30);
    }

    /** "of each MAN a LIKING .. (30 at first)", whoever came first. */
    private static void likingIs30AtFirst() {
        MuleVote x = new MuleVote();
        x.mule(1, 1);
        x.man(0, 0, 9);
        x.act(1, 0, 0);
        x.mule(1, 1);
        x.man(0, 0, 0);
        Due.is("3: a MULE that comes later", x.of(1, 10), 30);
        Due.is("4: a MAN who comes later", x.of(0, 11), 30);
        Due.is("6: sung to before", x.of(0, 10), 39);
    }
}
