/** Promises 2 to 6: what is told of the train. */
public final class MakingTest {
    public static void main(String[] args) {
        tellsState();
        makesMules();
        makesMen();
        sets();
        likes();
        Due.end("MakingTest");
    }

    private static void tellsState() {
        MuleVote x = new MuleVote();
        Due.is("first state", x.state(7), 0);
        Due.is("state(MIN)", x.state(Integer.MIN_VALUE), 7);
        Due.is("look(10)", x.look(10), Integer.MIN_VALUE);
        x.vote();
        x.state(1);
        Due.is("telling STATE forgets what can be undone", x.look(17), 0);
    }

    private static void makesMules() {
        MuleVote x = new MuleVote();
        int[][] bad = {{0, 0}, {41, 0}, {1, -1}, {1, 41}, {-5, 3}};
        x.vote();
        for (int[] b : bad) {
            Due.is("mule(" + b[0] + ", " + b[1] + ")", x.mule(b[0], b[1]), -1);
        }
        Due.is("what can't be forgets nothing", x.look(17), 1);
        Due.is("mule(1, 0)", x.mule(1, 0), 0);
        Due.is("a MULE forgets", x.look(17), 0);
        Due.is("mule(40, 40)", x.mule(40, 40), 1);
        for (int i = 2; i < 12; i++) {
            Due.is("mule " + i, x.mule(i, i), i);
        }
        Due.is("a thirteenth mule", x.mule(5, 5), -1);
        Due.is("of(1, 0)", x.of(1, 0), 40);
        Due.is("of(1, 1)", x.of(1, 1), 40);
        Due.is("of(11, 2)", x.of(11, 2), 0);
        Due.is("of(11, 3)", x.of(11, 3), -1);
        Due.is("look(0)", x.look(0), 12);
    }

    private static void makesMen() {
        MuleVote x = new MuleVote();
        x.mule(1, 1);
        x.vote();
        int[][] bad = {{-1, 0, 0}, {100, 0, 0}, {0, -1, 0}, {0, 10, 0}, {0, 0, -1}, {0, 0, 10}};
        for (int[] b : bad) {
            Due.is("man(" + b[0] + ", " + b[1] + ", " + b[2] + ")", x.man(b[0], b[1], b[2]), -1);
        }
        Due.is("what can't be forgets nothing", x.look(17), 1);
        Due.is("man(0, 0, 0)", x.man(0, 0, 0), 0);
        Due.is("a MAN forgets", x.look(17), 0);
        Due.is("man(99, 9, 9)", x.man(99, 9, 9), 1);
        for (int i = 2; i < 5; i++) {
            Due.is("man " + i, x.man(i, i, i), i);
        }
        Due.is("a sixth man", x.man(1, 1, 1), -1);
        Due.is("manOf(1, 0)", x.manOf(1, 0), 99);
        Due.is("manOf(1, 1)", x.manOf(1, 1), 9);
        Due.is("manOf(1, 2)", x.manOf(1, 2), 9);
        Due.is("LIKING at first", x.of(0, 14), 30);
        Due.is("look(1)", x.look(1), 5);
    }

    private static void sets() {
        MuleVote x = new MuleVote();
        x.mule(1, 1);
        x.man(1, 1, 1);
        x.vote();
        int[][] bad = {{0, 0, -1}, {0, 0, 10}, {1, 0, -1}, {1, 0, 10}, {2, 1, 0}, {2, -1, 0}, {2, 0, 2}, {2, 0, -1},
            {3, 0, 100}, {3, 0, -1}, {3, 1, 1}, {3, -1, 1}, {4, 0, 10}, {4, 0, -1}, {4, 1, 0}, {5, 0, 10}, {5, 0, -1}, {5, 1, 1},
            {6, 0, 0}, {-1, 0, 0}};
        for (int[] b : bad) {
            Due.is("set(" + b[0] + ", " + b[1] + ", " + b[2] + ")", x.set(b[0], b[1], b[2]), false);
        }
        Due.is("what can't be forgets nothing", x.look(17), 1);
        Due.is("who is not asked for SNOW", x.set(0, 77, 9), true);
        Due.is("set forgets", x.look(17), 0);
        Due.is("SNOW", x.look(3), 9);
        Due.is("who is not asked for AT", x.set(1, -3, 9), true);
        Due.is("AT", x.look(4), 9);
        Due.is("set(2, 0, 1)", x.set(2, 0, 1), true);
        Due.is("LAME", x.of(0, 2), 1);
        Due.is("LAME set", x.look(8), 1);
        Due.is("set(3, 0, 99)", x.set(3, 0, 99), true);
        Due.is("set(4, 0, 8)", x.set(4, 0, 8), true);
        Due.is("set(5, 0, 7)", x.set(5, 0, 7), true);
        Due.is("SALT", x.manOf(0, 0), 99);
        Due.is("HAND", x.manOf(0, 1), 8);
        Due.is("SONGS", x.manOf(0, 2), 7);
    }

    private static void likes() {
        MuleVote x = new MuleVote();
        x.mule(1, 1);
        x.mule(1, 1);
        x.man(1, 1, 1);
        x.man(1, 1, 1);
        x.vote();
        int[][] bad = {{2, 0, 1}, {-1, 0, 1}, {0, 2, 1}, {0, -1, 1}, {0, 0, -1}, {0, 0, 100}};
        for (int[] b : bad) {
            Due.is("like(" + b[0] + ", " + b[1] + ", " + b[2] + ")", x.like(b[0], b[1], b[2]), false);
        }
        Due.is("what can't be forgets nothing", x.look(17), 1);
        Due.is("like(1, 0, 99)", x.like(1, 0, 99), true);
        Due.is("LIKING forgets", x.look(17), 0);
        Due.is("like(1, 1, 0)", x.like(1, 1, 0), true);
        Due.is("of(1, 10)", x.of(1, 10), 99);
        Due.is("of(1, 11)", x.of(1, 11), 0);
        Due.is("of(0, 10)", x.of(0, 10), 30);
    }
}
