/** Promise 1: a new object. */
public final class NewObjectTest {
    public static void main(String[] args) {
        MuleVote x = new MuleVote();
        Due.is("NONE", MuleVote.NONE, -1);
        int[] looks = {0, 0, 0, 0, 0, -1, 0, 0, 0, 0, 0, 0, 0, 0, 0, 0, 0, 0};
        for (int what = 0; what < looks.length; what++) {
            Due.is("look(" + what + ")", x.look(what), looks[what]);
        }
        Due.is("of(0, 0)", x.of(0, 0), -2);
        Due.is("manOf(0, 0)", x.manOf(0, 0), -1);
        Due.is("book(0, 0)", x.book(0, 0), -2);
        Due.is("undo()", x.undo(), false);
        Due.is("image(false)", x.image(false), false);
        Due.is("fault(0)", x.fault(0), 0);
        Due.is("fault(1)", x.fault(1), -1);
        Due.end("NewObjectTest");
    }
}
