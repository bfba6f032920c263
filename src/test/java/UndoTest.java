/** Promises 34 to 36: UNDO, THE IMAGE and look. */
public final class UndoTest {
    public static void main(String[] args) {
        undoesEach();
        keepsSix();
        forgets();
        images();
        Due.end("UndoTest");
    }

    private static MuleVote train() {
        MuleVote x = ActsTest.train(3, 2);
        x.like(0, 1, 60);
        Due.tell(x, 0, "risk 1000;");
        Due.tell(x, 1, "mule 1 heeds 0;");
        Due.tell(x, 2, "on 1 vote;on 1 go 1;");
        Due.tell(x, 3, "path 0 1 hours 3;path 1 0 hours 3;");
        Due.tell(x, 4, "load 1 worth 1;");
        return x;
    }

    /** All that can be asked and that one thing done may move. */
    private static String all(MuleVote x) {
        StringBuilder s = new StringBuilder();
        for (int what = 0; what < 17; what++) {
            s.append(x.look(what)).append(' ');
        }
        for (int m = 0; m < 3; m++) {
            for (int what = 0; what < 55; what++) {
                s.append(x.of(m, what)).append(' ');
            }
        }
        for (int m = 0; m < 2; m++) {
            for (int what = 0; what < 4; what++) {
                s.append(x.manOf(m, what)).append(' ');
            }
        }
        for (int i = 0; i < x.look(9); i++) {
            for (int what = 0; what < 4; what++) {
                s.append(x.book(i, what)).append(' ');
            }
        }
        return s.append(x.path(0, 1)).append(' ').append(x.packs(0)).append(' ').append(x.fits(0)).toString();
    }

    private static boolean act(MuleVote x, int i) {
        switch (i) {
            case 0: return x.vote() == 1;
            case 1: return x.act(0, 0, 2);
            case 2: return x.act(1, 0, 0);
            case 3: return x.act(2, 1, 0);
            case 4: return x.go(1) == 3;
            case 5: return x.rest() == 3;
            default: return x.days(1) == 0;
        }
    }

    private static void undoesEach() {
        MuleVote x = train();
        String[] was = new String[7];
        for (int i = 0; i < 7; i++) {
            was[i] = all(x);
            Due.is("act " + i, act(x, i), true);
            Due.is("it moves something", all(x).equals(was[i]), false);
            Due.is("look(17)", x.look(17), Math.min(6, i + 1));
        }
        for (int i = 6; i >= 1; i--) {
            Due.is("undo()", x.undo(), true);
            Due.is("as before " + i, all(x).equals(was[i]), true);
            Due.is("look(17)", x.look(17), i - 1);
        }
        Due.is("none is left", x.undo(), false);
        Due.is("as before 1", all(x).equals(was[1]), true);
    }

    private static void keepsSix() {
        MuleVote x = train();
        x.days(9);
        Due.is("look(17)", x.look(17), 6);
        for (int i = 0; i < 6; i++) {
            Due.is("a DAY goes back", x.undo(), true);
            Due.is("DAY", x.look(2), 8 - i);
        }
        Due.is("six were kept", x.undo(), false);
        Due.is("a vote of PLANS stays with its DAY", x.look(5), 1);
    }

    private static void forgets() {
        MuleVote x = train();
        String[] kept = {"need 1;", "load 2 worth 2;"};
        x.vote();
        x.vote();
        Due.tell(x, 0, kept[0]);
        Due.tell(x, 4, kept[1]);
        x.seen(0, 0, true);
        x.image(true);
        Due.fault(x, 1, "mule", 1, 4);
        x.text(9);
        x.stands(0);
        x.goes(9, 0);
        Due.is("these forget nothing", x.look(17), 2);
        Due.is("undo()", x.undo(), true);
        Due.is("THE LAW stays", x.of(0, 5), 1);
        Due.is("SEEN stays", x.look(16), 1);
        String[] forgetting = {"mule 0 heeds 1;", "on 1 vote;", "path 1 2 hours 1;"};
        for (int k = 1; k <= 3; k++) {
            x.vote();
            Due.is("text(" + k + ")", Due.tell(x, k, forgetting[k - 1]), 1);
            Due.is("this forgets", x.look(17), 0);
        }
        Due.is("nothing", x.undo(), false);
    }

    private static void images() {
        MuleVote x = train();
        Due.is("there is none", x.image(false), false);
        for (int i = 0; i < 5; i++) {
            act(x, i);
        }
        x.seen(0, 1, true);
        String was = all(x);
        Due.is("image(true)", x.image(true), true);
        Due.is("as it was", all(x).equals(was), true);
        for (int round = 0; round < 2; round++) {
            x.undo();
            x.undo();
            x.rest();
            x.days(3);
            x.mule(40, 40);
            x.man(9, 9, 9);
            x.set(0, 0, 5);
            x.set(1, 0, 7);
            x.set(3, 1, 88);
            x.set(4, 1, 8);
            x.set(5, 1, 9);
            x.state(3);
            x.seen(-1, 0, true);
            x.like(2, 1, 0);
            for (int k = 0; k < 5; k++) {
                Due.tell(x, k, "");
            }
            x.vote();
            Due.fault(x, 0, "  lean", 1, 6);
            Due.feed(x, "need 7;");
            Due.is("otherwise", all(x).equals(was), false);
            Due.is("image(false)", x.image(false), true);
            Due.is("as it was when it was taken", all(x).equals(was), true);
            Due.is("nothing can be undone", x.undo(), false);
            Due.is("fault() stays", x.fault(1), 6);
            Due.is("the TAPE stays", x.text(0), 1);
            Due.is("so it tells", x.of(0, 5), 7);
        }
        x.image(false);
        x.man(1, 1, 1);
        Due.is("a new MAN after it", x.of(0, 12), 30);
    }
}
