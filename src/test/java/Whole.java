/** All that can be asked of a train without moving it, as one text: to see that a refused call changes nothing. */
final class Whole {
    private Whole() {
    }

    static String of(MuleVote x) {
        StringBuilder s = new StringBuilder();
        for (int what = 0; what < 17; what++) {
            add(s, x.look(what));
        }
        int mules = x.look(0);
        int men = x.look(1);
        for (int m = 0; m < mules; m++) {
            for (int what : new int[] {0, 1, 2, 3, 4, 5, 31, 54}) {
                add(s, x.of(m, what));
            }
            for (int man = 0; man < men; man++) {
                add(s, x.of(m, 10 + man));
                add(s, x.of(m, 20 + man));
            }
        }
        for (int man = 0; man < men; man++) {
            for (int what = 0; what < 4; what++) {
                add(s, x.manOf(man, what));
            }
        }
        for (int i = 0; i < x.look(9); i++) {
            for (int what = 0; what < 4; what++) {
                add(s, x.book(i, what));
            }
        }
        add(s, x.packs(1));
        add(s, x.fits(0));
        add(s, x.fits(1));
        return s.toString();
    }

    /** What can be undone, too. */
    static String andUndo(MuleVote x) {
        return of(x) + x.look(17);
    }

    private static void add(StringBuilder s, int v) {
        s.append(v).append(' ');
    }
}
