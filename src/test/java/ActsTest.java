/** Promises 7 to 11: what is done, and THE BOOK of it. */
public final class ActsTest {
    public static void main(String[] args) {
        votes();
        votesInTurn();
        salts();
        singsAndWhips();
        goes();
        drawsLameOnes();
        drawsAtTheEdge();
        rests();
        passesDays();
        fillsTheBook();
        Due.end("ActsTest");
    }

    static MuleVote train(int mules, int men) {
        MuleVote x = new MuleVote();
        for (int i = 0; i < mules; i++) {
            x.mule(10, i);
        }
        for (int i = 0; i < men; i++) {
            x.man(3, i, 4);
        }
        return x;
    }

    private static void book(MuleVote x, int line, int day, int what, int who, int which) {
        Due.is("book(" + line + ", 0)", x.book(line, 0), day);
        Due.is("book(" + line + ", 1)", x.book(line, 1), what);
        Due.is("book(" + line + ", 2)", x.book(line, 2), who);
        Due.is("book(" + line + ", 3)", x.book(line, 3), which);
    }

    private static void votes() {
        MuleVote x = train(4, 3);
        Due.is("nobody leans enough", x.vote(), -1);
        Due.is("TIES", x.look(6), 1);
        book(x, 0, 0, 0, -1, 0);
        x.like(0, 1, 40);
        x.like(1, 1, 60);
        x.like(2, 2, 41);
        x.like(2, 0, 41);
        Due.is("two behind 1", x.vote(), 1);
        book(x, 1, 0, 0, 1, 2);
        Due.is("need 40 is met at 40", x.of(0, 3), 1);
        Due.is("of several men the least", x.of(2, 3), 0);
        Due.is("behind none", x.of(3, 3), -1);
        x.like(3, 0, 50);
        Due.is("as many behind two", x.vote(), -1);
        Due.is("TIES again", x.look(6), 2);
        Due.is("they stand all the same", x.manOf(1, 3), 3);
        book(x, 2, 0, 0, -1, 0);
        x.set(2, 3, 1);
        Due.is("a lame one stands with nobody", x.vote(), 1);
        Due.is("of(3, 3)", x.of(3, 3), -1);
    }

    private static void votesInTurn() {
        MuleVote x = train(4, 2);
        x.like(3, 1, 50);
        Due.tell(x, 1, "mule 0 heeds 1; mule 1 heeds 2; mule 2 heeds 3;");
        Due.is("rounds", x.settles(0), 4);
        Due.is("vote", x.vote(), 1);
        Due.is("all behind 1", x.manOf(1, 3), 15);
        x.like(3, 1, 30);
        Due.is("none stands from before", x.vote(), -1);
        Due.is("manOf(1, 3)", x.manOf(1, 3), 0);
    }

    private static void salts() {
        MuleVote x = train(2, 2);
        x.set(3, 0, 2);
        x.like(1, 0, 90);
        Due.is("act(0, 2, 0)", x.act(0, 2, 0), false);
        Due.is("act(0, -1, 0)", x.act(0, -1, 0), false);
        Due.is("act(0, 0, 2)", x.act(0, 0, 2), false);
        Due.is("act(0, 0, -1)", x.act(0, 0, -1), false);
        Due.is("act(3, 0, 0)", x.act(3, 0, 0), false);
        Due.is("act(-1, 0, 0)", x.act(-1, 0, 0), false);
        Due.is("nothing is in the book", x.look(9), 0);
        Due.is("nothing to undo", x.look(17), 0);
        Due.is("act(0, 0, 1)", x.act(0, 0, 1), true);
        Due.is("99 at most", x.of(1, 10), 99);
        Due.is("act(0, 0, 0)", x.act(0, 0, 0), true);
        Due.is("15 more", x.of(0, 10), 45);
        Due.is("SALT", x.manOf(0, 0), 0);
        Due.is("no SALT", x.act(0, 0, 0), false);
        book(x, 0, 0, 1, 0, 1);
        book(x, 1, 0, 1, 0, 0);
        Due.is("two lines", x.look(9), 2);
    }

    private static void singsAndWhips() {
        MuleVote x = train(3, 3);
        x.like(1, 2, 97);
        x.set(2, 0, 1);
        Due.is("the mule is not asked", x.act(1, 2, 99), true);
        Due.is("a lame one hears", x.of(0, 12), 34);
        Due.is("99 at most", x.of(1, 12), 99);
        Due.is("not for others", x.of(1, 11), 30);
        book(x, 0, 0, 2, 2, 0);
        Due.is("act(1, 3, 0)", x.act(1, 3, 0), false);
        x.like(1, 1, 19);
        Due.is("act(2, 1, 3)", x.act(2, 1, 3), false);
        Due.is("act(2, 3, 1)", x.act(2, 3, 1), false);
        Due.is("act(2, 1, 1)", x.act(2, 1, 1), true);
        Due.is("0 at least", x.of(1, 11), 0);
        Due.is("5 more for others", x.of(1, 10), 35);
        Due.is("99 at most for others", x.of(1, 12), 99);
        Due.is("other mules", x.of(2, 11), 30);
        book(x, 1, 0, 3, 1, 1);
    }

    private static void goes() {
        MuleVote x = train(2, 1);
        Due.tell(x, 3, "path 0 4 hours 7; path 0 4 hours 2; path 4 5 hours 1;");
        Due.is("no DRIVER", x.go(4), -1);
        x.like(0, 0, 80);
        x.vote();
        Due.is("go(0)", x.go(0), -1);
        Due.is("go(5)", x.go(5), -1);
        Due.is("go(-1)", x.go(-1), -1);
        Due.is("go(10)", x.go(10), -1);
        Due.is("only the vote can be undone", x.look(17), 1);
        x.state(5);
        Due.is("go(4)", x.go(4), 0);
        Due.is("no risk: no DRAW", x.look(10), 5);
        Due.is("AT", x.look(4), 4);
        Due.is("HOURS", x.look(7), 7);
        book(x, 1, 0, 4, 4, 7);
        Due.is("go(5)", x.go(5), 0);
        Due.is("HOURS", x.look(7), 8);
    }

    private static void drawsLameOnes() {
        MuleVote x = train(4, 1);
        Due.tell(x, 3, "path 0 1 hours 3; path 1 0 hours 1;");
        Due.tell(x, 0, "lean 99; risk 1000 when mule = 0; risk 1 when mule = 1; risk 0 when mule = 2; risk hours * 300;");
        x.vote();
        x.set(2, 0, 1);
        x.state(77);
        int draws = 77;
        int fallen = 0;
        int[] risks = {0, 1, 0, 900};
        int lame = 1;
        for (int m = 1; m < 4; m++) {
            if (risks[m] > 0) {
                draws = 1664525 * draws + 1013904223;
                if ((draws >>> 8) % 1000 < risks[m]) {
                    fallen++;
                    lame |= 1 << m;
                }
            }
        }
        Due.is("go(1)", x.go(1), fallen);
        Due.is("STATE", x.look(10), draws);
        Due.is("LAME", x.look(8), lame);
        book(x, 1, 0, 4, 1, 3);
        if ((lame & 8) != 0) {
            book(x, 2, 0, 5, 3, 0);
        }
        Due.is("lines", x.look(9), 2 + fallen);
        Due.tell(x, 0, "risk 1000;");
        x.set(2, 0, 0);
        x.set(2, 1, 0);
        x.set(2, 2, 0);
        x.set(2, 3, 0);
        Due.is("all go lame", x.go(0), 4);
        Due.is("LAME", x.look(8), 15);
    }

    /** One is LAME if the DRAW is below its risk, not if it is its risk. */
    private static void drawsAtTheEdge() {
        int state = 0;
        while (((1664525 * state + 1013904223) >>> 8) % 1000 != 500) {
            state++;
        }
        for (int risk = 500; risk <= 501; risk++) {
            MuleVote x = train(1, 1);
            Due.tell(x, 3, "path 0 1 hours 3;");
            Due.tell(x, 0, "lean 99;risk " + risk + ";");
            x.vote();
            x.state(state);
            Due.is("a DRAW of 500 below " + risk, x.go(1), risk - 500);
        }
    }

    private static void rests() {
        MuleVote x = train(3, 1);
        Due.is("nobody is LAME", x.rest(), 0);
        book(x, 0, 0, 6, -1, 0);
        x.set(2, 0, 1);
        x.set(2, 2, 1);
        Due.is("two are LAME", x.rest(), 2);
        Due.is("LAME", x.look(8), 0);
        Due.is("of(2, 2)", x.of(2, 2), 0);
        Due.is("it can be undone", x.undo(), true);
        Due.is("LAME", x.look(8), 5);
    }

    private static void passesDays() {
        MuleVote x = train(3, 2);
        x.like(0, 0, 60);
        x.like(1, 0, 0);
        x.like(2, 0, 50);
        Due.tell(x, 3, "path 0 1 hours 3;");
        Due.tell(x, 2, "on 1 go 1; on 1 vote; on 1 go 1; on 0 salt 1 2; on 2 whip 0 0; on 1 go 1; on 3 sing 1;");
        Due.is("days(0)", x.days(0), -1);
        Due.is("days(61)", x.days(61), -1);
        Due.is("days(-1)", x.days(-1), -1);
        Due.is("DAY", x.look(2), 0);
        Due.is("days(2)", x.days(2), 3);
        Due.is("DAY", x.look(2), 2);
        Due.is("salt was given", x.of(2, 11), 45);
        Due.is("one less for whom it is behind", x.of(0, 10), 59);
        Due.is("one less for whom it is behind", x.of(2, 10), 49);
        Due.is("behind none", x.of(1, 10), 0);
        Due.is("AT", x.look(4), 1);
        Due.is("lines", x.look(9), 3);
        book(x, 0, 0, 1, 1, 2);
        book(x, 1, 1, 0, 0, 2);
        book(x, 2, 1, 4, 1, 3);
        Due.is("days(2)", x.days(2), 2);
        Due.is("DAY", x.look(2), 4);
        Due.is("whipped, and two days behind", x.of(0, 10), 37);
        Due.is("whipped by another, and sung to", x.of(0, 11), 39);
        Due.is("each DAY can be undone", x.look(17), 4);
        MuleVote z = train(1, 1);
        Due.tell(z, 0, "need 0;");
        z.like(0, 0, 1);
        z.vote();
        z.days(60);
        Due.is("LIKING is 0 at least", z.of(0, 10), 0);
        Due.is("six are kept", z.look(17), 6);
    }

    private static void fillsTheBook() {
        MuleVote x = train(1, 1);
        for (int i = 0; i < 152; i++) {
            x.act(i % 2 == 0 ? 1 : 2, 0, 0);
        }
        Due.is("150 lines at most", x.look(9), 150);
        Due.is("book(149, 1)", x.book(149, 1), 3);
        Due.is("book(150, 1)", x.book(150, 1), -2);
        for (int i = 0; i < 166; i++) {
            x.days(60);
        }
        Due.is("DAY", x.look(2), 9960);
        Due.is("beyond the last day", x.days(40), -1);
        Due.is("to the last day", x.days(39), 0);
        Due.is("none is left", x.days(1), -1);
        Due.is("DAY", x.look(2), 9999);
    }
}
