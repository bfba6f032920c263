/** Promises 16 to 19: what is asked of mules, men, paths and THE BOOK. */
public final class AskingTest {
    public static void main(String[] args) {
        MuleVote x = new MuleVote();
        x.mule(9, 8);
        x.mule(40, 0);
        x.mule(1, 40);
        x.man(7, 6, 5);
        x.man(0, 1, 2);
        Due.tell(x, 1, "mule 2 heeds 0 and 1;");
        x.like(0, 1, 77);
        x.like(2, 1, 70);
        x.vote();
        x.set(2, 2, 1);
        ofMules(x);
        ofMen(x);
        ofPaths(x);
        ofTheBook(x);
        Due.end("AskingTest");
    }

    private static void ofMules(MuleVote x) {
        int[] whats = {0, 1, 2, 3, 4, 5, 10, 11, 20, 21, 31, 54};
        int[][] dues = {{9, 8, 0, 1, 0, 40, 30, 77, 30, 77, 0, 0}, {1, 40, 1, 1, 3, 40, 30, 70, 30, 80, 0, 0}};
        for (int i = 0; i < whats.length; i++) {
            Due.is("of(0, " + whats[i] + ")", x.of(0, whats[i]), dues[0][i]);
            Due.is("of(2, " + whats[i] + ")", x.of(2, whats[i]), dues[1][i]);
            Due.is("no such mule", x.of(3, whats[i]), -2);
            Due.is("no such mule", x.of(-1, whats[i]), -2);
        }
        Due.is("behind none", x.of(1, 3), -1);
        for (int what : new int[] {-1, 6, 9, 12, 14, 15, 19, 22, 25, 30, 55, 99, Integer.MAX_VALUE, Integer.MIN_VALUE}) {
            Due.is("of(0, " + what + ")", x.of(0, what), -2);
        }
        x.set(0, 0, 9);
        Due.is("risk", x.of(0, 31), 180);
        Due.tell(x, 0, "risk hours*hand;");
        Due.is("by the DRIVER", x.of(0, 54), 24);
        Due.tell(x, 0, "");
    }

    private static void ofMen(MuleVote x) {
        int[][] dues = {{7, 6, 5, 0}, {0, 1, 2, 5}};
        for (int what = 0; what < 4; what++) {
            Due.is("manOf(0, " + what + ")", x.manOf(0, what), dues[0][what]);
            Due.is("manOf(1, " + what + ")", x.manOf(1, what), dues[1][what]);
            Due.is("no such man", x.manOf(2, what), -1);
            Due.is("no such man", x.manOf(-1, what), -1);
        }
        Due.is("manOf(0, 4)", x.manOf(0, 4), -1);
        Due.is("manOf(0, -1)", x.manOf(0, -1), -1);
    }

    private static void ofPaths(MuleVote x) {
        Due.tell(x, 3, "path 0 9 hours 5; path 0 9 hours 3; path 9 1 hours 24;");
        Due.is("path(0, 9)", x.path(0, 9), 5);
        Due.is("path(9, 1)", x.path(9, 1), 24);
        Due.is("one way", x.path(1, 9), -1);
        Due.is("path(0, 0)", x.path(0, 0), -1);
        Due.is("path(0, 10)", x.path(0, 10), -1);
        Due.is("path(-1, 9)", x.path(-1, 9), -1);
    }

    private static void ofTheBook(MuleVote x) {
        int[] dues = {0, 0, 1, 2};
        for (int what = 0; what < 4; what++) {
            Due.is("book(0, " + what + ")", x.book(0, what), dues[what]);
        }
        Due.is("book(1, 0)", x.book(1, 0), -2);
        Due.is("book(-1, 0)", x.book(-1, 0), -2);
        Due.is("book(0, 4)", x.book(0, 4), -2);
        Due.is("book(0, -1)", x.book(0, -1), -2);
        Due.is("look(18)", x.look(18), -1);
        Due.is("look(-1)", x.look(-1), -1);
    }
}
