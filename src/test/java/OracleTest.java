import java.util.ArrayList;
import java.util.List;
import java.util.Random;

/** All promises: chance runs of calls, of which each must answer as the slow Oracle does. */
public final class OracleTest {
    private static final int RUNS = 1500;
    private static final int CALLS = 512;
    private static final String[] FACTS = {"mule", "age", "strong", "liking", "heeded", "hand", "songs", "snow", "hours", "day"};

    private final Random chance;
    private MuleVote x = new MuleVote();
    private Oracle y = new Oracle();
    private int calls = 0;
    private final List<String> told = new ArrayList<>();
    private final int mostMules;
    private final boolean tame;

    private OracleTest(int seed) {
        chance = new Random(seed);
        mostMules = seed % 10 == 0 ? 12 : 1 + chance.nextInt(7);
        tame = chance.nextInt(4) != 0;
    }

    public static void main(String[] args) {
        int runs = args.length > 1 ? Integer.parseInt(args[1]) : RUNS;
        for (int seed = 0; seed < runs; seed++) {
            OracleTest run = new OracleTest(seed);
            run.begin();
            while (run.calls < CALLS - 25) {
                run.step();
            }
        }
        Due.end("OracleTest");
    }

    private void check(String call, long got, long want) {
        calls++;
        told.add(call);
        if (got != want) {
            System.out.println("after " + told);
            Due.is(call, got, want);
            Due.end("OracleTest");
        }
        Due.is(call, got, want);
    }

    private void check(String call, boolean got, boolean want) {
        check(call, got ? 1 : 0, want ? 1 : 0);
    }

    private int any(int least, int most) {
        return least + chance.nextInt(most - least + 1);
    }

    /** Mostly from within, now and then from just beyond, seldom from far away. */
    private int some(int least, int most) {
        int kind = chance.nextInt(40);
        if (kind == 0) {
            return new int[] {Integer.MIN_VALUE, Integer.MAX_VALUE, -1000, 1000, -2, 64, 100000}[chance.nextInt(7)];
        }
        if (kind == 1) {
            return least - 1;
        }
        if (kind == 2) {
            return most + 1;
        }
        return most < least ? least : any(least, most);
    }

    private int aMule() {
        return some(0, y.look(0) - 1);
    }

    private int aMan() {
        return some(0, y.look(1) - 1);
    }

    private int aCamp() {
        return some(0, tame ? 4 : 9);
    }

    private void begin() {
        int mules = any(mostMules / 2, mostMules);
        int men = any(1, 5);
        for (int i = 0; i < mules; i++) {
            mule();
        }
        for (int i = 0; i < men; i++) {
            man();
        }
        for (int i = 0; i < mules * 2; i++) {
            like();
        }
        for (int k = 0; k < 5; k++) {
            if (chance.nextInt(6) != 0) {
                text(k);
            }
        }
    }

    private void mule() {
        int a = some(1, 40);
        int b = some(0, 40);
        check("mule(" + a + ", " + b + ")", x.mule(a, b), y.mule(a, b));
    }

    private void man() {
        int a = some(0, chance.nextBoolean() ? 5 : 99);
        int b = some(0, 9);
        int c = some(0, 9);
        check("man(" + a + ", " + b + ", " + c + ")", x.man(a, b, c), y.man(a, b, c));
    }

    private void like() {
        int a = aMule();
        int b = aMan();
        int c = some(0, 99);
        check("like(" + a + ", " + b + ", " + c + ")", x.like(a, b, c), y.like(a, b, c));
    }

    private String pick(String... words) {
        return words[chance.nextInt(words.length)];
    }

    private String unit() {
        return chance.nextInt(3) == 0 ? "" + any(0, pick("a", "b").equals("a") ? 9999 : 60) : FACTS[chance.nextInt(10)];
    }

    private String term() {
        StringBuilder s = new StringBuilder(unit());
        while (chance.nextInt(3) == 0) {
            s.append(chance.nextBoolean() ? "*" + unit() : "/" + any(chance.nextInt(20) == 0 ? 0 : 1, 40));
        }
        return s.toString();
    }

    private String expression() {
        StringBuilder s = new StringBuilder(chance.nextInt(3) == 0 ? "liking" : term());
        while (chance.nextInt(3) == 0) {
            s.append(pick("+", "-", " + ", " - ")).append(term());
        }
        return s.toString();
    }

    private String condition(int depth) {
        int kind = depth > 10 ? 9 : chance.nextInt(10);
        String s = kind == 0 ? "not " + condition(depth + 1)
                : kind == 1 ? "(" + condition(depth + 1) + ")"
                : kind == 2 && chance.nextInt(4) == 0 ? "not(not not ( (" + condition(depth + 5) + "))) "
                : expression() + pick("<", "=", ">", " < ", " = ", " > ") + expression();
        int more = chance.nextInt(6);
        return more == 0 ? s + " and " + condition(depth + 1) : more == 1 ? s + " or " + condition(depth + 1) : s;
    }

    private String line(int k) {
        int mules = Math.max(1, y.look(0));
        int men = Math.max(1, y.look(1));
        switch (k) {
            case 0:
                String word = pick("lean", "need", "risk");
                String e = word.equals("need") && chance.nextBoolean() ? "" + any(0, 70) : expression();
                return word + " " + e + (chance.nextInt(3) == 0 ? " when " + condition(0) : "") + ";";
            case 1:
                int mule = any(0, mules - 1);
                StringBuilder s = new StringBuilder("mule " + mule + " heeds");
                String and = " ";
                do {
                    int other = any(0, mules - 1);
                    s.append(and).append(other == mule && chance.nextInt(30) != 0 ? (mule + 1) % mules : other);
                    and = " and ";
                } while (chance.nextInt(3) == 0);
                return s + ";";
            case 2:
                String on = "on " + any(y.look(2), y.look(2) + 8);
                switch (chance.nextInt(5)) {
                    case 0: return on + " vote;";
                    case 1: return on + " salt " + any(0, men - 1) + " " + any(0, mules - 1) + ";";
                    case 2: return on + " whip " + any(0, men - 1) + " " + any(0, mules - 1) + ";";
                    case 3: return on + " sing " + any(0, men - 1) + ";";
                    default: return on + " go " + any(0, tame ? 4 : 9) + ";";
                }
            case 3:
                int most = tame ? 4 : 9;
                int from = any(0, most);
                return "path " + from + " " + (from + any(1, most)) % (most + 1) + " hours " + any(1, chance.nextBoolean() ? 5 : 24) + ";";
            default:
                return "load " + any(1, 40) + " worth " + any(1, chance.nextBoolean() ? 9 : 99) + ";";
        }
    }

    /** Now and then a text is spoiled at one place. */
    private String spoiled(String text) {
        if (chance.nextInt(5) != 0 || text.isEmpty()) {
            return text;
        }
        int at = chance.nextInt(text.length());
        String put = pick("", ";", "(", ")", "not ", " and ", "0", "99", "x", "\t", "\n", "-", ".", "\u00e9", "Q", "12345", "*", " when ", "mule", "=");
        return text.substring(0, at) + put + text.substring(Math.min(text.length(), at + chance.nextInt(3)));
    }

    private void text(int k) {
        StringBuilder s = new StringBuilder();
        int lines = chance.nextInt(4) == 0 ? 17 : chance.nextInt(k == 4 ? 8 : 9);
        for (int i = 0; i < lines; i++) {
            String line = line(k);
            if (s.length() + line.length() <= 400) {
                s.append(line).append(pick("", "", "", " ", "\n", "  "));
            }
        }
        String text = spoiled(s.toString());
        if (text.length() > 400) {
            text = text.substring(0, 400);
        }
        check("end(0)", x.end(0), y.end(0));
        int fed = 0;
        while (fed < text.length()) {
            int[] v = new int[5];
            for (int i = 0; i < 20; i++, fed++) {
                v[i / 4] = v[i / 4] << 8 | (fed < text.length() ? text.charAt(fed) : 32);
            }
            check("feed of " + text, x.feed(v[0], v[1], v[2], v[3], v[4]), y.feed(v[0], v[1], v[2], v[3], v[4]));
        }
        if (chance.nextInt(8) != 0) {
            check("end(" + text.length() + ")", x.end(text.length()), y.end(text.length()));
        }
        check("text(" + k + ") of '" + text + "'", x.text(k), y.text(k));
        check("fault(0) of '" + text + "'", x.fault(0), y.fault(0));
        check("fault(1) of '" + text + "'", x.fault(1), y.fault(1));
    }

    private void step() {
        int a;
        int b;
        int c;
        switch (chance.nextInt(40)) {
            case 0: a = chance.nextInt(); check("state(" + a + ")", x.state(a), y.state(a)); break;
            case 1:
                if (y.look(0) < mostMules) {
                    mule();
                }
                break;
            case 2: man(); break;
            case 3:
                a = some(0, 5);
                b = a >= 3 ? aMan() : aMule();
                c = some(0, a == 2 ? 1 : a == 3 ? (chance.nextBoolean() ? 5 : 99) : 9);
                check("set(" + a + ", " + b + ", " + c + ")", x.set(a, b, c), y.set(a, b, c));
                break;
            case 4: like(); break;
            case 5: case 6: check("vote()", x.vote(), y.vote()); break;
            case 7: case 8:
                a = some(0, 2);
                b = aMan();
                c = aMule();
                check("act(" + a + ", " + b + ", " + c + ")", x.act(a, b, c), y.act(a, b, c));
                break;
            case 9: case 10: a = aCamp(); check("go(" + a + ")", x.go(a), y.go(a)); break;
            case 11: check("rest()", x.rest(), y.rest()); break;
            case 12: case 13: a = some(1, chance.nextInt(9) == 0 ? 60 : 4); check("days(" + a + ")", x.days(a), y.days(a)); break;
            case 14:
                if (calls < CALLS - 60) {
                    text(chance.nextInt(5));
                }
                break;
            case 15:
                a = chance.nextInt();
                check("feed(" + a + ", ..)", x.feed(a, 0, a, -1, a), y.feed(a, 0, a, -1, a));
                b = some(0, 40);
                check("end(" + b + ")", x.end(b), y.end(b));
                a = some(0, 4);
                check("text(" + a + ")", x.text(a), y.text(a));
                a = some(0, 1);
                check("fault(" + a + ")", x.fault(a), y.fault(a));
                break;
            case 16: case 17:
                a = aMule();
                b = chance.nextInt(3) == 0 ? some(0, 60) : any(0, 5) + 10 * any(0, 5);
                check("of(" + a + ", " + b + ")", x.of(a, b), y.of(a, b));
                break;
            case 18: a = aMan(); b = some(0, 3); check("manOf(" + a + ", " + b + ")", x.manOf(a, b), y.manOf(a, b)); break;
            case 19: a = aCamp(); b = aCamp(); check("path(" + a + ", " + b + ")", x.path(a, b), y.path(a, b)); break;
            case 20: case 21:
                a = some(0, y.look(9) - 1);
                for (c = 0; c < 4; c++) {
                    check("book(" + a + ", " + c + ")", x.book(a, c), y.book(a, c));
                }
                c = some(0, 3);
                check("book(" + a + ", " + c + ")", x.book(a, c), y.book(a, c));
                break;
            case 22: a = aMule(); check("stands(" + a + ")", x.stands(a), y.stands(a)); break;
            case 23: a = some(0, 1); check("settles(" + a + ")", x.settles(a), y.settles(a)); break;
            case 24:
                a = some(1, chance.nextInt(9) == 0 ? 60 : 6);
                b = some(0, 3);
                check("goes(" + a + ", " + b + ")", x.goes(a, b), y.goes(a, b));
                break;
            case 25:
                if (y.look(0) < 8 || chance.nextInt(20) == 0) {
                    a = aMan();
                    b = some(0, 1);
                    check("wins(" + a + ", " + b + ")", x.wins(a, b), y.wins(a, b));
                }
                break;
            case 26: a = aMule(); check("turnsBy(" + a + ")", x.turnsBy(a), y.turnsBy(a)); break;
            case 27: case 28:
                a = aCamp();
                b = aCamp();
                c = some(0, 2);
                check("way(" + a + ", " + b + ", " + c + ")", x.way(a, b, c), y.way(a, b, c));
                break;
            case 29: a = some(0, 1); check("packs(" + a + ")", x.packs(a), y.packs(a)); break;
            case 30: check("row()", x.row(), y.row()); break;
            case 31:
                a = chance.nextInt(9) == 0 ? -1 : aMule();
                b = aMan();
                boolean stood = chance.nextBoolean();
                check("seen(" + a + ", " + b + ", " + stood + ")", x.seen(a, b, stood), y.seen(a, b, stood));
                break;
            case 32: case 33: a = some(0, 3); check("fits(" + a + ")", x.fits(a), y.fits(a)); break;
            case 34:
                a = some(0, (1 << y.look(0)) - 1);
                b = some(1, 24);
                c = some(0, 1);
                check("led(" + a + ", " + b + ", " + c + ")", x.led(a, b, c), y.led(a, b, c));
                break;
            case 35:
                a = some(0, 1);
                b = y.game(a);
                if (b != -2) {
                    check("game(" + a + ")", x.game(a), b);
                }
                break;
            case 36: a = some(0, 9999); b = aMule(); check("share(" + a + ", " + b + ")", x.share(a, b), y.share(a, b)); break;
            case 37: a = aCamp(); b = aCamp(); check("meets(" + a + ", " + b + ")", x.meets(a, b), y.meets(a, b)); break;
            case 38:
                check("undo()", x.undo(), y.undo());
                if (chance.nextInt(3) == 0) {
                    boolean taken = chance.nextBoolean();
                    check("image(" + taken + ")", x.image(taken), y.image(taken));
                }
                break;
            default: a = some(0, 17); check("look(" + a + ")", x.look(a), y.look(a)); break;
        }
        if (calls % 20 == 0 && calls < CALLS - 60) {
            for (a = 0; a < 18; a++) {
                check("look(" + a + ")", x.look(a), y.look(a));
            }
        }
    }
}
