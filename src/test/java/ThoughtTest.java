/** Promises 20 to 33: what is thought out, of which nothing stays. */
public final class ThoughtTest {
    public static void main(String[] args) {
        standsAndSettles();
        thinksOfDays();
        wins();
        turns();
        waysAndMeetings();
        packs();
        rows();
        sights();
        led();
        games();
        shares();
        Due.end("ThoughtTest");
    }

    private static void standsAndSettles() {
        MuleVote x = ActsTest.train(4, 2);
        x.like(1, 1, 45);
        x.like(2, 0, 39);
        Due.tell(x, 1, "mule 0 heeds 1;mule 2 heeds 3;mule 3 heeds 0;");
        Due.is("stands(0)", x.stands(0), 1);
        Due.is("stands(1)", x.stands(1), 1);
        Due.is("stands(2)", x.stands(2), 1);
        Due.is("stands(3)", x.stands(3), 1);
        Due.is("stands(4)", x.stands(4), -2);
        Due.is("stands(-1)", x.stands(-1), -2);
        Due.is("rounds", x.settles(0), 3);
        Due.is("DRIVER", x.settles(1), 1);
        Due.is("settles(2)", x.settles(2), -2);
        Due.is("settles(-1)", x.settles(-1), -2);
        x.set(2, 1, 1);
        Due.is("stands(0)", x.stands(0), -1);
        Due.is("stands(1), LAME", x.stands(1), -1);
        Due.is("rounds", x.settles(0), 0);
        Due.is("DRIVER", x.settles(1), -1);
        MuleVote z = ActsTest.train(12, 1);
        z.like(11, 0, 40);
        StringBuilder row = new StringBuilder();
        for (int i = 0; i < 11; i++) {
            row.append("mule ").append(i).append(" heeds ").append(i + 1).append(";");
        }
        Due.tell(z, 1, row.toString());
        Due.is("one a round", z.settles(0), 12);
        Due.is("the last of all", z.stands(0), 0);
        Due.is("the whole row", z.row(), 12);
        Due.is("nothing stays: TIES", x.look(6), 0);
        Due.is("nothing stays: THE BOOK", x.look(9), 0);
        Due.is("nothing stays: BEHIND", x.of(0, 3), -1);
    }

    private static void thinksOfDays() {
        MuleVote x = ActsTest.train(2, 1);
        x.like(0, 0, 42);
        Due.tell(x, 0, "risk 1000;");
        Due.tell(x, 3, "path 0 1 hours 3;path 1 2 hours 4;");
        Due.tell(x, 2, "on 1 vote;on 1 go 1;on 2 go 2;on 5 vote;on 4 whip 0 0;");
        x.state(9);
        Due.is("goes(1, 0)", x.goes(1, 0), -1);
        Due.is("goes(2, 0)", x.goes(2, 0), 0);
        Due.is("goes(2, 1)", x.goes(2, 1), 1);
        Due.is("goes(3, 2)", x.goes(3, 2), 7);
        Due.is("goes(3, 3)", x.goes(3, 3), 0);
        Due.is("goes(6, 0)", x.goes(6, 0), -1);
        Due.is("goes(60, 3)", x.goes(60, 3), 1);
        Due.is("goes(0, 0)", x.goes(0, 0), -2);
        Due.is("goes(61, 0)", x.goes(61, 0), -2);
        Due.is("goes(1, 4)", x.goes(1, 4), -2);
        Due.is("goes(1, -1)", x.goes(1, -1), -2);
        int[] now = {2, 1, 0, 0, 0, -1, 0, 0, 0, 0, 9};
        for (int what = 0; what < now.length; what++) {
            Due.is("nothing stays: look(" + what + ")", x.look(what), now[what]);
        }
        Due.is("nothing stays: LIKING", x.of(0, 10), 42);
        Due.tell(x, 2, "on 0 vote;on 0 go 1;on 1 vote;on 1 go 2;");
        Due.is("none goes lame in thought", x.goes(2, 0), 0);
        Due.is("none goes lame in thought", x.goes(2, 1), 2);
        Due.is("days(2)", x.days(2), 3);
        Due.is("but they do when it goes", x.look(8), 3);
        Due.is("and so nobody drives on", x.look(4), 1);
    }

    private static void wins() {
        MuleVote x = ActsTest.train(5, 2);
        Due.is("one salted mule is enough", x.wins(1, 0), 1);
        Due.is("of several the least", x.wins(1, 1), 1);
        x.like(0, 0, 99);
        x.like(1, 0, 99);
        x.like(2, 1, 20);
        x.set(2, 3, 1);
        Due.is("not with 4 and 2", x.wins(1, 0), -1);
        Due.is("wins(1, 1)", x.wins(1, 1), -1);
        Due.is("as it is", x.wins(0, 0), 0);
        Due.is("the empty set", x.wins(0, 1), 0);
        x.set(2, 3, 0);
        x.like(2, 1, 25);
        Due.is("three of them", x.wins(1, 0), 3);
        Due.is("wins(1, 1)", x.wins(1, 1), 28);
        Due.tell(x, 1, "mule 2 heeds 3;mule 4 heeds 2;");
        Due.is("the rest follow", x.wins(1, 0), 2);
        Due.is("wins(1, 1)", x.wins(1, 1), 12);
        Due.is("wins(2, 0)", x.wins(2, 0), -1);
        Due.is("wins(-1, 0)", x.wins(-1, 0), -1);
        Due.is("wins(0, 2)", x.wins(0, 2), -1);
        Due.is("SALT is not asked", x.set(3, 1, 0), true);
        Due.is("wins(1, 0)", x.wins(1, 0), 2);
        MuleVote z = ActsTest.train(1, 1);
        z.like(0, 0, 90);
        Due.tell(z, 0, "need 100;");
        Due.is("LIKING is 99 at most", z.wins(0, 0), -1);
    }

    private static void turns() {
        MuleVote x = ActsTest.train(4, 2);
        x.like(0, 0, 50);
        x.like(1, 1, 50);
        x.like(2, 1, 50);
        Due.is("another one where there is one: none", x.turnsBy(1), 1);
        Due.is("the same DRIVER", x.turnsBy(0), 0);
        Due.is("it stands with nobody", x.turnsBy(3), 0);
        x.set(2, 2, 1);
        Due.is("a DRIVER where there is none", x.turnsBy(1), 1);
        Due.is("LAME already", x.turnsBy(2), 0);
        Due.is("turnsBy(4)", x.turnsBy(4), -1);
        Due.is("turnsBy(-1)", x.turnsBy(-1), -1);
    }

    private static void waysAndMeetings() {
        MuleVote x = ActsTest.train(2, 1);
        Due.tell(x, 3, "path 0 1 hours 10;path 0 3 hours 4;path 0 2 hours 4;path 2 1 hours 6;path 3 1 hours 5;path 3 2 hours 1;path 1 0 hours 1;");
        Due.is("way(0, 1, 0)", x.way(0, 1, 0), 9);
        Due.is("way(0, 1, 1)", x.way(0, 1, 1), 3);
        Due.is("way(3, 0, 0)", x.way(3, 0, 0), 6);
        Due.is("way(2, 3, 1)", x.way(2, 3, 1), 1);
        Due.is("none", x.way(0, 9, 0), -1);
        Due.is("none", x.way(0, 9, 1), -1);
        Due.is("none", x.way(0, 9, 2), -1);
        Due.is("alike", x.way(9, 9, 0), 0);
        Due.is("alike", x.way(9, 9, 1), -1);
        Due.is("alike", x.way(9, 9, 2), 0);
        Due.is("way(10, 0, 0)", x.way(10, 0, 0), -1);
        Due.is("way(0, -1, 0)", x.way(0, -1, 0), -1);
        Due.is("way(0, 1, 3)", x.way(0, 1, 3), -1);
        Due.is("way(0, 1, -1)", x.way(0, 1, -1), -1);
        Due.is("no risk", x.way(0, 1, 2), 0);
        Due.tell(x, 0, "risk hours*hours+mule*100;");
        Due.is("the greatest risk of a mule", x.way(0, 1, 2), 200);
        x.set(2, 1, 1);
        Due.is("not of a lame one", x.way(0, 1, 2), 41);
        x.set(2, 0, 1);
        Due.is("none is left", x.way(0, 1, 2), 0);
        Due.tell(x, 3, "path 0 1 hours 2;path 0 2 hours 1;path 1 0 hours 1;path 3 1 hours 2;path 4 5 hours 24;path 5 4 hours 24;path 7 8 hours 3;");
        Due.is("at once", x.meets(6, 6), 0);
        Due.is("both go to 1", x.meets(0, 3), 2);
        Due.is("never: always apart", x.meets(0, 1), -1);
        Due.is("never: past each other", x.meets(4, 5), -1);
        Due.is("it stays there", x.meets(7, 8), 3);
        Due.is("never", x.meets(6, 9), -1);
        Due.is("meets(10, 0)", x.meets(10, 0), -1);
        Due.is("meets(0, -1)", x.meets(0, -1), -1);
        Due.tell(x, 3, "path 0 1 hours 24;path 1 2 hours 24;path 2 3 hours 24;path 3 4 hours 24;path 4 5 hours 3;path 5 6 hours 1;");
        Due.is("99 hours", x.meets(0, 5), -1);
        Due.is("all end at 6", x.meets(1, 6), 76);
        Due.tell(x, 3, "path 0 1 hours 24;path 1 2 hours 24;path 2 3 hours 24;path 3 4 hours 24;path 4 5 hours 3;");
        Due.is("99 hours", x.meets(0, 5), 99);
        Due.tell(x, 3, "path 0 1 hours 24;path 1 2 hours 24;path 2 3 hours 24;path 3 4 hours 24;path 4 5 hours 4;");
        Due.is("100 hours", x.meets(0, 5), -1);
    }

    private static void packs() {
        MuleVote x = new MuleVote();
        Due.is("no LOADS", x.packs(0), 0);
        Due.is("no LOADS", x.packs(1), 0);
        Due.tell(x, 4, "load 6 worth 5;load 6 worth 5;load 5 worth 9;load 40 worth 99;");
        Due.is("no MULES", x.packs(0), 0);
        x.mule(11, 0);
        x.mule(6, 0);
        Due.is("each by one mule", x.packs(0), 19);
        Due.is("packs(1)", x.packs(1), 7);
        x.set(2, 1, 1);
        Due.is("not by a lame one", x.packs(0), 14);
        Due.is("of several the least", x.packs(1), 5);
        x.mule(40, 0);
        Due.is("packs(1)", x.packs(1), 13);
        Due.is("packs(2)", x.packs(2), -1);
        Due.is("packs(-1)", x.packs(-1), -1);
    }

    private static void rows() {
        MuleVote x = ActsTest.train(6, 0);
        Due.is("alone", x.row(), 1);
        Due.tell(x, 1, "mule 0 heeds 1;mule 1 heeds 0;");
        Due.is("unlike ones", x.row(), 2);
        Due.tell(x, 1, "mule 0 heeds 1 and 2;mule 1 heeds 3;mule 2 heeds 1;mule 3 heeds 0;mule 5 heeds 4;");
        Due.is("2 1 3 0 or 0 2 1 3", x.row(), 4);
        x.set(2, 1, 1);
        Due.is("LAME or not", x.row(), 4);
    }

    private static void sights() {
        MuleVote x = ActsTest.train(2, 2);
        x.like(0, 0, 20);
        x.like(0, 1, 60);
        x.like(1, 0, 70);
        x.like(1, 1, 70);
        Due.is("fits(0)", x.fits(0), 100);
        Due.is("fits(2)", x.fits(2), 0);
        Due.is("fits(3)", x.fits(3), 1);
        Due.is("seen(2, 0)", x.seen(2, 0, true), -1);
        Due.is("seen(-2, 0)", x.seen(-2, 0, true), -1);
        Due.is("seen(0, 2)", x.seen(0, 2, true), -1);
        Due.is("seen(0, -1)", x.seen(0, -1, true), -1);
        Due.is("seen(1, 0)", x.seen(1, 0, true), 1);
        Due.is("k to 70", x.fits(0), 71);
        Due.is("fits(1)", x.fits(1), 0);
        Due.is("seen(0, 0)", x.seen(0, 0, false), 2);
        Due.is("k from 21", x.fits(0), 50);
        Due.is("fits(1)", x.fits(1), 21);
        Due.is("60 parts best", x.fits(2), 0);
        Due.is("60 parts best", x.fits(3), 1);
        x.like(0, 0, 69);
        Due.is("one k", x.fits(0), 1);
        Due.is("fits(1)", x.fits(1), 70);
        Due.is("nothing to part", x.fits(2), -1);
        Due.is("nothing to part", x.fits(3), -1);
        Due.is("fits(4)", x.fits(4), -1);
        Due.is("fits(-1)", x.fits(-1), -1);
        x.like(1, 0, 10);
        Due.is("none", x.fits(0), 0);
        Due.is("none", x.fits(1), -1);
        x.vote();
        for (int i = 3; i <= 12; i++) {
            Due.is("seen " + i, x.seen(1, 1, true), i);
        }
        Due.is("twelve", x.seen(1, 1, true), -1);
        Due.is("look(16)", x.look(16), 12);
        Due.is("SEEN forgets nothing", x.look(17), 1);
        Due.is("cleared", x.seen(-1, 77, true), 0);
        Due.is("fits(0)", x.fits(0), 100);
        MuleVote z = ActsTest.train(2, 0);
        Due.is("no MEN", z.fits(2), -1);
        Due.is("no MEN", z.seen(0, 0, true), -1);
    }

    private static void led() {
        MuleVote x = ActsTest.train(3, 2);
        Due.tell(x, 0, "risk 100+hand*100+mule*hours;");
        Due.is("none goes lame", x.led(0, 5, 0), 0);
        Due.is("900 895 890", x.led(0, 5, 1), 716895);
        Due.is("all go lame", x.led(7, 5, 0), 1);
        Due.is("200 205 210", x.led(7, 5, 1), 8610);
        Due.is("downwards each time", x.led(7, 3, 1), 200000 * 203 / 1000 * 206 / 1000);
        x.set(2, 0, 1);
        Due.is("LAME now or not", x.led(7, 5, 1), 8610);
        Due.is("beyond the mules", x.led(8, 5, 0), -1);
        Due.is("led(-1, 5, 0)", x.led(-1, 5, 0), -1);
        Due.is("led(0, 0, 0)", x.led(0, 0, 0), -1);
        Due.is("led(0, 25, 0)", x.led(0, 25, 0), -1);
        Due.is("led(0, 24, 2)", x.led(0, 24, 2), -1);
        Due.tell(x, 0, "risk 500;");
        Due.is("of several the least", x.led(5, 24, 0), 0);
        Due.is("led(5, 24, 1)", x.led(5, 24, 1), 125000);
        MuleVote z = new MuleVote();
        Due.is("no MEN", z.led(0, 1, 1), -1);
        z.man(0, 0, 0);
        Due.is("no MULES", z.led(0, 1, 1), 1000000);
        Due.is("no such MULE", z.led(1, 1, 1), -1);
    }

    private static void games() {
        MuleVote x = new MuleVote();
        Due.is("no MEN", x.game(0), -1);
        x.man(0, 0, 0);
        Due.is("no SALT", x.game(0), -1);
        x.man(1, 0, 0);
        Due.is("the last one", x.game(0), 1);
        Due.is("the last one", x.game(1), 0);
        x.set(3, 0, 1);
        Due.is("who begins loses", x.game(0), -1);
        Due.is("who begins loses", x.game(1), -1);
        x.set(3, 0, 3);
        Due.is("3 and 1: to 1 and 1", x.game(0), 0);
        Due.is("3 and 1: half of 3 upwards", x.game(1), 1);
        x.set(3, 1, 2);
        Due.is("3 and 2: leave 2 and 2", x.game(0), 0);
        Due.is("3 and 2: leave 2 and 2", x.game(1), 2);
        Due.is("game(2)", x.game(2), -1);
        Due.is("game(-1)", x.game(-1), -1);
    }

    private static void shares() {
        MuleVote x = ActsTest.train(4, 0);
        Due.is("none is heeded", x.share(100, 0), 0);
        Due.tell(x, 1, "mule 0 heeds 1 and 3;mule 2 heeds 1 and 3;mule 3 heeds 1;mule 1 heeds 0;");
        int[] dues = {2, 6, 0, 3};
        for (int i = 0; i < 4; i++) {
            Due.is("share(11, " + i + ")", x.share(11, i), dues[i]);
        }
        Due.is("share(0, 1)", x.share(0, 1), 0);
        Due.is("share(9999, 1)", x.share(9999, 1), 4999);
        Due.is("share(9999, 0)", x.share(9999, 0), 1667);
        Due.is("share(9999, 3)", x.share(9999, 3), 3333);
        Due.is("share(10000, 1)", x.share(10000, 1), -1);
        Due.is("share(-1, 1)", x.share(-1, 1), -1);
        Due.is("share(1, 4)", x.share(1, 4), -1);
        Due.is("share(1, -1)", x.share(1, -1), -1);
    }
}
