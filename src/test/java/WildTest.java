import java.util.Random;

/**
 * No call may throw, whatever it is given, in any state: each method is called with numbers from everywhere,
 * and with bytes of every kind on the TAPE; and the same calls give the same answers.
 */
public final class WildTest {
    private static final int CALLS = 512;
    private static final int RUNS = 400;
    private static final int[] NUMBERS = {Integer.MIN_VALUE, Integer.MIN_VALUE + 1, -65536, -257, -100, -31, -12, -3, -2, -1, 0, 1, 2, 3, 4, 5,
        6, 7, 8, 9, 10, 11, 12, 13, 14, 15, 16, 19, 20, 24, 25, 30, 31, 39, 40, 41, 54, 55, 59, 60, 61, 99, 100, 149, 150, 255, 256, 400, 401,
        999, 1000, 4095, 4096, 9999, 10000, 65536, Integer.MAX_VALUE - 1, Integer.MAX_VALUE};
    private static final String[] TEXTS = {"lean liking*age/3-heeded*9999*9999*9999;", "need 9999*9999*mule-7/1;", "risk hours*hours+snow when not hand<day;",
        "mule 0 heeds 1 and 2;", "mule 11 heeds 0;", "on 0 vote;", "on 1 go 1;", "on 2 salt 0 0;", "path 0 1 hours 1;", "path 1 0 hours 24;",
        "load 40 worth 99;", "load 1 worth 1;", "(((((((((", "not not not not not not not not not", "lean 1 when", "mule", "\u0000", "\u00ff", "and", ";"};

    public static void main(String[] args) {
        for (int seed = 0; seed < RUNS; seed++) {
            Due.is("the same calls, seed " + seed, run(seed), run(seed));
        }
        alone();
        Due.end("WildTest");
    }

    /** Each call alone on a new object and on a full one. */
    private static void alone() {
        Random chance = new Random(1);
        for (int call = 0; call < 34; call++) {
            for (int i = 0; i < 300; i++) {
                MuleVote x = new MuleVote();
                if (i % 2 == 1) {
                    fill(x);
                }
                call(x, call, chance);
                Due.is("it still answers", x.look(18), -1);
            }
        }
    }

    private static void fill(MuleVote x) {
        for (int i = 0; i < 12; i++) {
            x.mule(40 - i, i);
        }
        for (int i = 0; i < 5; i++) {
            x.man(99 - i, i, 9 - i);
        }
        x.image(true);
    }

    private static int run(int seed) {
        Random chance = new Random(seed);
        MuleVote x = new MuleVote();
        int calls = 0;
        if (seed % 3 != 0) {
            fill(x);
            calls += 18;
        }
        int sum = 0;
        while (calls < CALLS) {
            sum = sum * 31 + call(x, chance.nextInt(34), chance);
            calls++;
        }
        return sum;
    }

    private static int any(Random chance) {
        int v = NUMBERS[chance.nextInt(NUMBERS.length)];
        return chance.nextInt(4) == 0 ? chance.nextInt() : chance.nextInt(3) != 0 ? Math.floorMod(v, 13) : v;
    }

    private static int bit(boolean b) {
        return b ? 1 : 0;
    }

    private static int call(MuleVote x, int call, Random chance) {
        int a = any(chance);
        int b = any(chance);
        int c = any(chance);
        boolean is = chance.nextBoolean();
        switch (call) {
            case 0: return x.state(a);
            case 1: return x.mule(a, b);
            case 2: return x.man(a, b, c);
            case 3: return bit(x.set(a, b, c));
            case 4: return bit(x.like(a, b, c));
            case 5: return x.vote();
            case 6: return bit(x.act(a, b, c));
            case 7: return x.go(a);
            case 8: return x.rest();
            case 9: return x.days(a);
            case 10: return x.feed(a, b, c, any(chance), any(chance));
            case 11: return bit(x.end(a));
            case 12: return tell(x, chance);
            case 13: return x.fault(a);
            case 14: return x.of(a, b);
            case 15: return x.manOf(a, b);
            case 16: return x.path(a, b);
            case 17: return x.book(a, b);
            case 18: return x.stands(a);
            case 19: return x.settles(a);
            case 20: return x.goes(a, b);
            case 21: return x.wins(a, b);
            case 22: return x.turnsBy(a);
            case 23: return x.way(a, b, c);
            case 24: return x.packs(a);
            case 25: return x.row();
            case 26: return x.seen(a, b, is);
            case 27: return x.fits(a);
            case 28: return x.led(a, b, c);
            case 29: return x.game(a);
            case 30: return x.share(a, b);
            case 31: return x.meets(a, b);
            case 32: return bit(is ? x.undo() : x.image(chance.nextBoolean()));
            default: return x.look(a);
        }
    }

    private static int tell(MuleVote x, Random chance) {
        StringBuilder s = new StringBuilder();
        int pieces = chance.nextInt(18);
        int only = chance.nextInt(TEXTS.length);
        for (int i = 0; i < pieces; i++) {
            s.append(TEXTS[chance.nextInt(3) == 0 ? chance.nextInt(TEXTS.length) : only]);
        }
        s.setLength(Math.min(400, s.length()));
        return Due.tell(x, chance.nextInt(7) - 1, s.toString());
    }
}
