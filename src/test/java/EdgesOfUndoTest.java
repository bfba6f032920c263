/** Promises 34 and 35 at their edges: a test for each sentence of the document that names one. */
public final class EdgesOfUndoTest {
    private static final int LEAST = Integer.MIN_VALUE;

    public static void main(String[] args) {
        nothingToUndo();
        eachGoesBack();
        sixAreKept();
        theLatestFirst();
        whatIsUndoneIsGone();
        daysGoBackOneByOne();
        whatElseIsToldForgets();
        whatIsRefusedForgetsNothing();
        theLawLoadsAndSeenForgetNothing();
        theLawLoadsAndSeenDoNotGoBack();
        noImageYet();
        theImageIsAllThatIs();
        theImageAsItWasWhenTaken();
        goneBackMoreThanOnce();
        theTapeAndFaultAreNotOfTheImage();
        nothingCanBeUndoneThen();
        theTakingForgetsNothing();
        Due.end("EdgesOfUndoTest");
    }

    /** A train that can do all there is to do. */
    private static MuleVote train() {
        MuleVote x = ActsTest.train(4, 2);
        x.like(0, 1, 60);
        x.set(0, 0, 2);
        x.state(1234567);
        Due.tell(x, 0, "risk 1000 when mule=1;risk 500;");
        Due.tell(x, 1, "mule 2 heeds 0;");
        Due.tell(x, 2, "on 0 vote;on 0 salt 0 0;on 1 sing 1;on 1 go 1;");
        Due.tell(x, 3, "path 0 1 hours 3;path 1 0 hours 2;path 0 2 hours 4;");
        Due.tell(x, 4, "load 3 worth 3;");
        return x;
    }

    private static final int KINDS = 7;

    /** One thing done of that kind; whether it could be. */
    private static boolean does(MuleVote x, int kind) {
        switch (kind) {
            case 0: return x.vote() >= -1;
            case 1: return x.act(0, 1, 3);
            case 2: return x.act(1, 0, 0);
            case 3: return x.act(2, 1, 2);
            case 4: return x.go(x.look(4) == 0 ? 1 : 0) >= 0;
            case 5: return x.rest() >= 0;
            default: return x.days(1) >= 0;
        }
    }

    /** "true; false if there is nothing." */
    private static void nothingToUndo() {
        MuleVote x = new MuleVote();
        Due.is("34: a new object", x.undo(), false);
        x = train();
        String was = Whole.andUndo(x);
        Due.is("34: nothing was done", x.undo(), false);
        Due.is("34: nothing changes", Whole.andUndo(x).equals(was), true);
        x.vote();
        Due.is("34: one", x.undo(), true);
        Due.is("34: and no more", x.undo(), false);
        Due.is("34: as it was", Whole.andUndo(x).equals(was), true);
    }

    /** "the latest VOTE, SALT, SONG, WHIP, GOING, REST, DAY .. goes back (STATE, THE BOOK, too)" */
    private static void eachGoesBack() {
        for (int kind = 0; kind < KINDS; kind++) {
            MuleVote x = train();
            x.vote();
            String was = Whole.of(x);
            int state = x.look(10);
            Due.is("34: kind " + kind, does(x, kind), true);
            Due.is("34: one more can be undone", x.look(17), 2);
            Due.is("34: it is otherwise", Whole.of(x).equals(was), false);
            if (kind == 4) {
                Due.is("34: STATE moved", x.look(10) != state, true);
            }
            Due.is("34: undo", x.undo(), true);
            Due.is("34: as it was before " + kind, Whole.of(x).equals(was), true);
        }
    }

    /** "6 are kept" */
    private static void sixAreKept() {
        for (int done = 1; done <= 9; done++) {
            MuleVote x = train();
            String[] were = new String[10];
            for (int i = 0; i < done; i++) {
                were[i] = Whole.of(x);
                Due.is("34: act", x.act(i % 2 == 0 ? 2 : 1, i % 2, 0), true);
                Due.is("36: look(17)", x.look(17), Math.min(6, i + 1));
            }
            for (int i = done - 1; i >= Math.max(0, done - 6); i--) {
                Due.is("34: undo", x.undo(), true);
                Due.is("34: as it was before " + i, Whole.of(x).equals(were[i]), true);
            }
            String last = Whole.of(x);
            Due.is("34: no more than six", x.undo(), false);
            Due.is("34: nothing changes", Whole.of(x).equals(last), true);
        }
    }

    /** "the latest .. not undone yet" */
    private static void theLatestFirst() {
        MuleVote x = train();
        x.vote();
        x.act(2, 0, 3);
        x.act(0, 1, 3);
        Due.is("34: SALT goes back", x.undo(), true);
        Due.is("6: the whip stays", x.of(3, 10), 10);
        Due.is("17: SALT", x.manOf(1, 0), 3);
        Due.is("34: the WHIP goes back", x.undo(), true);
        Due.is("6: LIKING", x.of(3, 10), 30);
        Due.is("36: DRIVER", x.look(5), 1);
        Due.is("34: the VOTE goes back", x.undo(), true);
        Due.is("36: DRIVER", x.look(5), -1);
        Due.is("36: lines", x.look(9), 0);
    }

    private static void whatIsUndoneIsGone() {
        MuleVote x = train();
        x.act(1, 0, 0);
        x.act(1, 1, 0);
        x.undo();
        x.act(2, 1, 2);
        Due.is("36: two", x.look(17), 2);
        Due.is("19: in the place of what was undone", x.book(1, 1), 3);
        Due.is("34: undo", x.undo(), true);
        Due.is("34: undo", x.undo(), true);
        Due.is("34: undo", x.undo(), false);
        Due.is("6: LIKING", x.of(2, 10), 30);
        Due.is("6: LIKING", x.of(2, 11), 30);
    }

    /** "DAY": what was done in it goes back with it. */
    private static void daysGoBackOneByOne() {
        MuleVote x = train();
        String was = Whole.of(x);
        x.days(1);
        String first = Whole.of(x);
        x.days(2);
        Due.is("36: three DAYS", x.look(17), 3);
        Due.is("36: lines", x.look(9) >= 4, true);
        Due.is("34: DAY 2", x.undo(), true);
        Due.is("36: DAY", x.look(2), 2);
        Due.is("34: DAY 1", x.undo(), true);
        Due.is("34: as it was", Whole.of(x).equals(first), true);
        Due.is("34: DAY 0, its VOTE and its SALT", x.undo(), true);
        Due.is("34: as it was", Whole.of(x).equals(was), true);
        Due.is("34: no more", x.undo(), false);
        x.days(60);
        Due.is("36: six of sixty", x.look(17), 6);
    }

    private static boolean tells(MuleVote x, int i) {
        switch (i) {
            case 0: return x.state(x.look(10)) == 1234567;
            case 1: return x.mule(1, 1) >= 0;
            case 2: return x.man(1, 1, 1) >= 0;
            case 3: return x.like(0, 0, 30);
            case 4: return Due.tell(x, 1, "") == 0;
            case 5: return Due.tell(x, 2, "") == 0;
            case 6: return Due.tell(x, 3, "") == 0;
            case 7: return x.set(0, 0, 2);
            case 8: return x.set(1, 0, 0);
            case 9: return x.set(2, 0, 0);
            case 10: return x.set(3, 0, 3);
            case 11: return x.set(4, 0, 0);
            case 12: return x.set(5, 0, 4);
            default: return x.image(false);
        }
    }

    /** "whatever else is told .. forgets them", though it be told as it was. */
    private static void whatElseIsToldForgets() {
        for (int i = 0; i <= 13; i++) {
            MuleVote x = train();
            x.image(true);
            x.vote();
            x.vote();
            Due.is("36: two", x.look(17), 2);
            Due.is("34: told " + i, tells(x, i), true);
            Due.is("34: forgets " + i, x.look(17), 0);
            Due.is("34: undo after " + i, x.undo(), false);
        }
    }

    private static void whatIsRefusedForgetsNothing() {
        MuleVote x = train();
        Due.is("35: no image", x.image(false), false);
        x.vote();
        x.vote();
        x.mule(0, 0);
        x.man(100, 0, 0);
        x.like(0, 0, 100);
        for (int what = -1; what <= 6; what++) {
            x.set(what, 0, -1);
        }
        x.act(3, 0, 0);
        x.act(0, 9, 0);
        x.go(9);
        x.days(0);
        x.days(61);
        x.image(false);
        x.seen(9, 9, true);
        x.fault(9);
        x.text(-1);
        x.text(5);
        for (int k = 0; k < 5; k++) {
            Due.fault(x, k, "!", 1, 0);
        }
        for (int i = 0; i < 21; i++) {
            x.feed(0, 0, 0, 0, 0);
        }
        x.end(401);
        Due.is("36: look(17)", x.look(17), 2);
        Due.is("34: undo", x.undo(), true);
        Due.is("34: undo", x.undo(), true);
        Due.is("34: undo", x.undo(), false);
    }

    /** "but THE LAW, LOADS, SEEN" */
    private static void theLawLoadsAndSeenForgetNothing() {
        MuleVote x = train();
        String was = Whole.of(x);
        x.vote();
        Due.tell(x, 0, "need 1;");
        Due.is("36: THE LAW", x.look(17), 1);
        Due.tell(x, 0, "");
        Due.is("36: no LAW", x.look(17), 1);
        Due.tell(x, 4, "load 1 worth 1;");
        Due.is("36: LOADS", x.look(17), 1);
        Due.tell(x, 4, "");
        Due.is("36: no LOADS", x.look(17), 1);
        x.seen(0, 0, true);
        Due.is("36: SEEN", x.look(17), 1);
        x.seen(-1, 0, true);
        Due.is("36: nothing SEEN", x.look(17), 1);
        Due.is("34: undo", x.undo(), true);
        Due.tell(x, 0, "risk 1000 when mule=1;risk 500;");
        Due.tell(x, 4, "load 3 worth 3;");
        Due.is("34: as it was", Whole.of(x).equals(was), true);
    }

    private static void theLawLoadsAndSeenDoNotGoBack() {
        MuleVote x = train();
        x.vote();
        Due.tell(x, 0, "need 77;");
        Due.tell(x, 4, "load 1 worth 1;load 1 worth 1;");
        x.seen(0, 0, true);
        Due.is("34: undo", x.undo(), true);
        Due.is("16: need", x.of(0, 5), 77);
        Due.is("36: LOADS", x.look(15), 2);
        Due.is("36: SEEN", x.look(16), 1);
    }

    /** "true; false if there is none." */
    private static void noImageYet() {
        MuleVote x = train();
        x.vote();
        String was = Whole.andUndo(x);
        Due.is("35: none", x.image(false), false);
        Due.is("35: nothing changes", Whole.andUndo(x).equals(was), true);
        Due.is("35: taken", x.image(true), true);
        Due.is("35: gone back to", x.image(false), true);
        MuleVote y = new MuleVote();
        Due.is("35: of nobody", y.image(true), true);
        y.mule(1, 1);
        y.man(9, 9, 9);
        y.like(0, 0, 99);
        y.vote();
        Due.is("35: gone back to", y.image(false), true);
        Due.is("36: MULES", y.look(0), 0);
        Due.is("36: MEN", y.look(1), 0);
        Due.is("36: lines", y.look(9), 0);
        Due.is("36: DRIVER", y.look(5), -1);
        y.mule(2, 2);
        y.man(0, 0, 0);
        Due.is("6: LIKING of one that comes then", y.of(0, 10), 30);
        Due.is("16: BEHIND of one that comes then", y.of(0, 3), -1);
    }

    private static void spoil(MuleVote x) {
        x.state(LEAST);
        x.rest();
        x.mule(1, 1);
        x.man(1, 1, 1);
        x.set(0, 0, 7);
        x.set(1, 0, 8);
        x.set(2, 2, 1);
        x.set(3, 0, 99);
        x.set(4, 0, 9);
        x.set(5, 0, 9);
        x.like(0, 0, 1);
        x.days(60);
        x.vote();
        x.seen(0, 0, true);
        x.seen(1, 1, false);
        for (int k = 0; k < 5; k++) {
            Due.tell(x, k, new String[] {"lean 5;", "mule 3 heeds 0;", "on 500 vote;", "path 5 6 hours 7;", "load 9 worth 9;"}[k]);
        }
        for (int i = 0; i < 30; i++) {
            x.act(1, 0, 0);
        }
    }

    /** "all that is and was told": MULES, MEN, the rest, TEXTS, SEEN, STATE, THE BOOK. */
    private static void theImageIsAllThatIs() {
        MuleVote x = train();
        x.days(2);
        x.seen(0, 1, true);
        x.act(1, 1, 0);
        x.vote();
        String was = Whole.of(x);
        int[] looks = new int[17];
        for (int what = 0; what < 17; what++) {
            looks[what] = x.look(what);
        }
        x.image(true);
        spoil(x);
        Due.is("35: it is otherwise", Whole.of(x).equals(was), false);
        Due.is("35: gone back to", x.image(false), true);
        Due.is("35: as it was", Whole.of(x).equals(was), true);
        for (int what = 0; what < 17; what++) {
            Due.is("36: look(" + what + ")", x.look(what), looks[what]);
        }
        Due.is("18: path", x.path(0, 1), 3);
        Due.is("18: path", x.path(5, 6), -1);
        Due.is("30: THE LAW", x.led(2, 5, 1), 125000);
        Due.is("29: SEEN", x.fits(0), x.of(0, 11) + 1);
    }

    /** "as it was when it was taken": the latest taking counts. */
    private static void theImageAsItWasWhenTaken() {
        MuleVote x = train();
        x.image(true);
        x.act(1, 0, 0);
        x.image(true);
        x.act(1, 0, 0);
        Due.is("6: LIKING", x.of(1, 10), 38);
        x.undo();
        x.undo();
        Due.is("6: LIKING", x.of(1, 10), 30);
        x.image(false);
        Due.is("6: LIKING", x.of(1, 10), 34);
        Due.is("36: lines", x.look(9), 1);
    }

    /** "gone back to it may be more than once" */
    private static void goneBackMoreThanOnce() {
        MuleVote x = train();
        x.vote();
        x.image(true);
        x.image(false);
        String was = Whole.of(x);
        for (int i = 0; i < 3; i++) {
            spoil(x);
            Due.is("35: it is otherwise", Whole.of(x).equals(was), false);
            Due.is("35: gone back to", x.image(false), true);
            Due.is("35: as it was", Whole.of(x).equals(was), true);
            Due.is("35: and at once again", x.image(false), true);
            Due.is("35: as it was", Whole.of(x).equals(was), true);
        }
    }

    /** "but the TAPE, fault()" */
    private static void theTapeAndFaultAreNotOfTheImage() {
        MuleVote x = train();
        Due.fault(x, 0, "need 1/0;", 2, 7);
        Due.feed(x, "need 5;");
        x.image(true);
        Due.is("13: the taking leaves the TAPE", x.end(7), true);
        Due.is("15: the taking leaves fault()", x.fault(0), 2);
        Due.fault(x, 0, "need", 1, 4);
        Due.feed(x, "need 66;");
        x.image(false);
        Due.is("15: fault(0)", x.fault(0), 1);
        Due.is("15: fault(1)", x.fault(1), 4);
        Due.is("13: the TAPE has as many", x.end(9), false);
        Due.is("14: the TAPE", x.text(0), 1);
        Due.is("16: need", x.of(0, 5), 66);
    }

    /** "what can be undone (nothing then)" */
    private static void nothingCanBeUndoneThen() {
        MuleVote x = train();
        x.vote();
        x.vote();
        x.image(true);
        Due.is("36: the taking leaves what can be undone", x.look(17), 2);
        x.vote();
        x.image(false);
        Due.is("36: nothing then", x.look(17), 0);
        Due.is("34: nothing then", x.undo(), false);
        Due.is("36: lines", x.look(9), 2);
        x.vote();
        Due.is("34: what is done since", x.undo(), true);
        Due.is("34: and no more", x.undo(), false);
        Due.is("36: lines", x.look(9), 2);
    }

    /** "(the taking of THE IMAGE does not)" */
    private static void theTakingForgetsNothing() {
        MuleVote x = train();
        String was = Whole.of(x);
        for (int i = 0; i < 6; i++) {
            x.act(1, 0, 0);
            x.image(true);
            Due.is("36: look(17)", x.look(17), i + 1);
        }
        for (int i = 0; i < 6; i++) {
            Due.is("34: undo", x.undo(), true);
        }
        Due.is("34: as it was", Whole.of(x).equals(was), true);
        x.image(false);
        Due.is("35: six songs of 4", x.of(1, 10), 54);
    }
}
