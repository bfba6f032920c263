import java.util.ArrayDeque;
import java.util.ArrayList;
import java.util.Arrays;
import java.util.Deque;
import java.util.HashMap;
import java.util.HashSet;
import java.util.List;
import java.util.Map;
import java.util.Set;
import java.util.TreeMap;
import java.util.TreeSet;

/** The document once more, as plainly and slowly as it can be said, to hold MuleVote against. */
final class Oracle {
    static final int NONE = -1;

    static final class Mule {
        int strong;
        int age;
        boolean lame;
        Integer behind;
        final int[] liking = {30, 30, 30, 30, 30};

        Mule copy() {
            Mule m = new Mule();
            m.strong = strong;
            m.age = age;
            m.lame = lame;
            m.behind = behind;
            System.arraycopy(liking, 0, m.liking, 0, 5);
            return m;
        }
    }

    static final class Man {
        int salt;
        int hand;
        int songs;

        Man copy() {
            Man m = new Man();
            m.salt = salt;
            m.hand = hand;
            m.songs = songs;
            return m;
        }
    }

    /** All that is, but the texts and what was seen. */
    static final class Scene {
        List<Mule> mules = new ArrayList<>();
        List<Man> men = new ArrayList<>();
        List<int[]> book = new ArrayList<>();
        int draws;
        int snow;
        int at;
        Integer driver;
        int ties;
        int hours;
        int day;

        Scene copy() {
            Scene s = new Scene();
            for (Mule m : mules) {
                s.mules.add(m.copy());
            }
            for (Man m : men) {
                s.men.add(m.copy());
            }
            s.book.addAll(book);
            s.draws = draws;
            s.snow = snow;
            s.at = at;
            s.driver = driver;
            s.ties = ties;
            s.hours = hours;
            s.day = day;
            return s;
        }
    }

    interface Value {
        int of(Map<String, Integer> facts);
    }

    interface Test {
        boolean of(Map<String, Integer> facts);
    }

    static final class LawLine {
        String word;
        Value value;
        Test when;
    }

    static final class Fault extends Exception {
        private static final long serialVersionUID = 1;
        final int code;
        final int place;

        Fault(int code, int place) {
            this.code = code;
            this.place = place;
        }
    }

    static final class Token {
        char kind; // 'w' a word, 'n' a number, 's' a sign, 'e' the end, '?' none
        String text;
        int place;
    }

    static final class Texts {
        List<LawLine> law = new ArrayList<>();
        List<int[]> heeds = new ArrayList<>(); // mule, others...
        List<Object[]> plans = new ArrayList<>(); // day, word, numbers
        List<int[]> paths = new ArrayList<>();
        List<int[]> loads = new ArrayList<>();
        List<int[]> seen = new ArrayList<>();

        Texts copy() {
            Texts t = new Texts();
            t.law = new ArrayList<>(law);
            t.heeds = new ArrayList<>(heeds);
            t.plans = new ArrayList<>(plans);
            t.paths = new ArrayList<>(paths);
            t.loads = new ArrayList<>(loads);
            t.seen = new ArrayList<>(seen);
            return t;
        }
    }

    private Scene now = new Scene();
    private Texts texts = new Texts();
    private final Deque<Scene> past = new ArrayDeque<>();
    private Scene imageScene;
    private Texts imageTexts;
    private String tape = "";
    private int fault = 0;
    private int faultPlace = NONE;

    private static boolean in(int v, int least, int most) {
        return least <= v && v <= most;
    }

    private boolean isMule(int m) {
        return in(m, 0, now.mules.size() - 1);
    }

    private boolean isMan(int m) {
        return in(m, 0, now.men.size() - 1);
    }

    private static int orNone(Integer who) {
        return who == null ? NONE : who;
    }

    int state(int v) {
        int was = now.draws;
        now.draws = v;
        past.clear();
        return was;
    }

    int mule(int strong, int age) {
        if (!in(strong, 1, 40) || !in(age, 0, 40) || now.mules.size() == 12) {
            return NONE;
        }
        Mule m = new Mule();
        m.strong = strong;
        m.age = age;
        now.mules.add(m);
        past.clear();
        return now.mules.size() - 1;
    }

    int man(int salt, int hand, int songs) {
        if (!in(salt, 0, 99) || !in(hand, 0, 9) || !in(songs, 0, 9) || now.men.size() == 5) {
            return NONE;
        }
        Man m = new Man();
        m.salt = salt;
        m.hand = hand;
        m.songs = songs;
        now.men.add(m);
        past.clear();
        return now.men.size() - 1;
    }

    boolean set(int what, int who, int v) {
        if (what == 0 && in(v, 0, 9)) {
            now.snow = v;
        } else if (what == 1 && in(v, 0, 9)) {
            now.at = v;
        } else if (what == 2 && isMule(who) && in(v, 0, 1)) {
            now.mules.get(who).lame = v == 1;
        } else if (what == 3 && isMan(who) && in(v, 0, 99)) {
            now.men.get(who).salt = v;
        } else if (what == 4 && isMan(who) && in(v, 0, 9)) {
            now.men.get(who).hand = v;
        } else if (what == 5 && isMan(who) && in(v, 0, 9)) {
            now.men.get(who).songs = v;
        } else {
            return false;
        }
        past.clear();
        return true;
    }

    boolean like(int mule, int man, int v) {
        if (!isMule(mule) || !isMan(man) || !in(v, 0, 99)) {
            return false;
        }
        now.mules.get(mule).liking[man] = v;
        past.clear();
        return true;
    }

    private void remember() {
        past.addLast(now.copy());
        if (past.size() > 6) {
            past.removeFirst();
        }
    }

    private static void line(Scene s, int what, int who, int which) {
        if (s.book.size() < 150) {
            s.book.add(new int[] {s.day, what, who, which});
        }
    }

    private Set<Integer> heededBy(int mule) {
        Set<Integer> set = new TreeSet<>();
        for (int[] line : texts.heeds) {
            for (int i = 1; i < line.length; i++) {
                if (line[0] == mule) {
                    set.add(line[i]);
                }
            }
        }
        return set;
    }

    private int tells(String word, int usual, int most, Object... facts) {
        Map<String, Integer> map = new HashMap<>();
        for (String name : new String[] {"mule", "age", "strong", "liking", "heeded", "hand", "songs", "snow", "hours", "day"}) {
            map.put(name, 0);
        }
        for (int i = 0; i < facts.length; i += 2) {
            map.put((String) facts[i], (Integer) facts[i + 1]);
        }
        int v = usual;
        for (LawLine l : texts.law) {
            if (l.word.equals(word) && (l.when == null || l.when.of(map))) {
                v = l.value.of(map);
                break;
            }
        }
        return Math.min(most, Math.max(0, v));
    }

    private int lean(Scene s, int mule, int man) {
        int heeded = 0;
        for (int other : heededBy(mule)) {
            Integer behind = s.mules.get(other).behind;
            if (behind != null && behind == man) {
                heeded++;
            }
        }
        Mule m = s.mules.get(mule);
        Man w = s.men.get(man);
        return tells("lean", m.liking[man] + 10 * heeded, 999, "mule", mule, "age", m.age, "strong", m.strong,
                "liking", m.liking[man], "heeded", heeded, "hand", w.hand, "songs", w.songs, "snow", s.snow, "day", s.day);
    }

    private int need(Scene s, int mule) {
        Mule m = s.mules.get(mule);
        return tells("need", 40, 999, "mule", mule, "age", m.age, "strong", m.strong, "snow", s.snow, "day", s.day);
    }

    private int risk(Scene s, int mule, int hours, Integer man) {
        Mule m = s.mules.get(mule);
        int hand = man == null ? 0 : s.men.get(man).hand;
        int songs = man == null ? 0 : s.men.get(man).songs;
        return tells("risk", 20 * s.snow, 1000, "mule", mule, "age", m.age, "strong", m.strong, "hours", hours,
                "hand", hand, "songs", songs, "snow", s.snow, "day", s.day);
    }

    /** How many rounds with a change. */
    private int castVote(Scene s) {
        for (Mule m : s.mules) {
            m.behind = null;
        }
        int rounds = 0;
        while (true) {
            boolean changed = false;
            for (int i = 0; i < s.mules.size(); i++) {
                Mule m = s.mules.get(i);
                if (m.lame || m.behind != null || s.men.isEmpty()) {
                    continue;
                }
                int best = 0;
                for (int w = 1; w < s.men.size(); w++) {
                    if (lean(s, i, w) > lean(s, i, best)) {
                        best = w;
                    }
                }
                if (lean(s, i, best) >= need(s, i)) {
                    m.behind = best;
                    changed = true;
                }
            }
            if (!changed) {
                break;
            }
            rounds++;
        }
        s.driver = null;
        for (int w = 0; w < s.men.size(); w++) {
            boolean most = count(s, w) >= 1;
            for (int o = 0; o < s.men.size(); o++) {
                most &= o == w || count(s, w) > count(s, o);
            }
            if (most) {
                s.driver = w;
            }
        }
        if (s.driver == null) {
            s.ties++;
        }
        line(s, 0, orNone(s.driver), s.driver == null ? 0 : count(s, s.driver));
        return rounds;
    }

    private static int count(Scene s, int man) {
        int n = 0;
        for (Mule m : s.mules) {
            n += m.behind != null && m.behind == man ? 1 : 0;
        }
        return n;
    }

    int vote() {
        remember();
        castVote(now);
        return orNone(now.driver);
    }

    private boolean perform(Scene s, int what, int man, int mule) {
        if (!in(man, 0, s.men.size() - 1)) {
            return false;
        }
        Man w = s.men.get(man);
        if (what == 1) {
            for (Mule m : s.mules) {
                m.liking[man] = Math.min(99, m.liking[man] + w.songs);
            }
            line(s, 2, man, 0);
            return true;
        }
        if (!in(mule, 0, s.mules.size() - 1)) {
            return false;
        }
        int[] liking = s.mules.get(mule).liking;
        if (what == 0) {
            if (w.salt == 0) {
                return false;
            }
            w.salt--;
            liking[man] = Math.min(99, liking[man] + 15);
            line(s, 1, man, mule);
            return true;
        }
        if (what == 2) {
            for (int o = 0; o < s.men.size(); o++) {
                liking[o] = o == man ? Math.max(0, liking[o] - 20) : Math.min(99, liking[o] + 5);
            }
            line(s, 3, man, mule);
            return true;
        }
        return false;
    }

    boolean act(int what, int man, int mule) {
        Scene was = now.copy();
        if (!perform(now, what, man, mule)) {
            return false;
        }
        Scene done = now;
        now = was;
        remember();
        now = done;
        return true;
    }

    private int draw(Scene s, int m) {
        s.draws = (int) (s.draws * 1664525L + 1013904223L);
        return (int) (((s.draws & 0xffffffffL) >> 8) % m);
    }

    /** How many went lame, or none if it can't be. */
    private int travel(Scene s, int camp, boolean thought) {
        int hours = path(s.at, camp);
        if (hours == NONE || s.driver == null) {
            return NONE;
        }
        s.hours += hours;
        line(s, 4, camp, hours);
        int n = 0;
        for (int i = 0; i < s.mules.size() && !thought; i++) {
            if (!s.mules.get(i).lame) {
                int risk = risk(s, i, hours, s.driver);
                if (risk > 0 && draw(s, 1000) < risk) {
                    s.mules.get(i).lame = true;
                    line(s, 5, i, 0);
                    n++;
                }
            }
        }
        s.at = camp;
        return n;
    }

    int go(int camp) {
        Scene was = now.copy();
        int n = travel(now, camp, false);
        if (n != NONE) {
            Scene done = now;
            now = was;
            remember();
            now = done;
        }
        return n;
    }

    int rest() {
        remember();
        int n = 0;
        for (Mule m : now.mules) {
            n += m.lame ? 1 : 0;
            m.lame = false;
        }
        line(now, 6, NONE, 0);
        return n;
    }

    private int passDay(Scene s, boolean thought) {
        int done = 0;
        for (Object[] plan : texts.plans) {
            if ((Integer) plan[0] != s.day) {
                continue;
            }
            String word = (String) plan[1];
            int a = (Integer) plan[2];
            int b = (Integer) plan[3];
            boolean did = true;
            switch (word) {
                case "vote": castVote(s); break;
                case "salt": did = perform(s, 0, a, b); break;
                case "sing": did = perform(s, 1, a, 0); break;
                case "whip": did = perform(s, 2, a, b); break;
                default: did = travel(s, a, thought) != NONE;
            }
            done += did ? 1 : 0;
        }
        for (Mule m : s.mules) {
            if (m.behind != null) {
                m.liking[m.behind] = Math.max(0, m.liking[m.behind] - 1);
            }
        }
        s.day++;
        return done;
    }

    int days(int n) {
        if (!in(n, 1, 60) || now.day + n > 9999) {
            return NONE;
        }
        int done = 0;
        for (int i = 0; i < n; i++) {
            remember();
            done += passDay(now, false);
        }
        return done;
    }

    int feed(int a, int b, int c, int d, int e) {
        if (tape.length() + 20 > 400) {
            return NONE;
        }
        for (int four : new int[] {a, b, c, d, e}) {
            tape += "" + (char) (four >> 24 & 255) + (char) (four >> 16 & 255) + (char) (four >> 8 & 255) + (char) (four & 255);
        }
        return tape.length();
    }

    boolean end(int n) {
        if (!in(n, 0, tape.length())) {
            return false;
        }
        tape = tape.substring(0, n);
        return true;
    }

    // The texts: tokens first, then by descent.

    private List<Token> tokens;
    private int at;

    private static List<Token> cut(String s) {
        List<Token> list = new ArrayList<>();
        int i = 0;
        while (i < s.length()) {
            char c = s.charAt(i);
            if (c == 32 || c == 10) {
                i++;
                continue;
            }
            Token t = new Token();
            t.place = i;
            int j = i + 1;
            if ((c | 32) >= 'a' && (c | 32) <= 'z' && c < 128) {
                while (j < s.length() && s.substring(j, j + 1).matches("[A-Za-z]")) {
                    j++;
                }
                t.kind = 'w';
            } else if (c >= '0' && c <= '9') {
                while (j < s.length() && s.charAt(j) >= '0' && s.charAt(j) <= '9') {
                    j++;
                }
                t.kind = j - i > 4 ? '?' : 'n';
            } else {
                t.kind = 's';
            }
            t.text = s.substring(i, j);
            list.add(t);
            i = j;
        }
        Token end = new Token();
        end.kind = 'e';
        end.text = "";
        end.place = s.length();
        list.add(end);
        return list;
    }

    private Token hand() {
        return tokens.get(at);
    }

    private boolean is(String text) {
        return hand().kind != 'e' && hand().text.equals(text);
    }

    private boolean take(String text) {
        if (is(text)) {
            at++;
            return true;
        }
        return false;
    }

    private void must(String text) throws Fault {
        if (!take(text)) {
            throw new Fault(1, hand().place);
        }
    }

    private int number(int least, int most) throws Fault {
        if (hand().kind != 'n') {
            throw new Fault(1, hand().place);
        }
        int v = Integer.parseInt(hand().text);
        if (!in(v, least, most)) {
            throw new Fault(2, hand().place);
        }
        at++;
        return v;
    }

    private int unlike(int least, int most, int other) throws Fault {
        int place = hand().place;
        int v = number(least, most);
        if (v == other) {
            throw new Fault(2, place);
        }
        return v;
    }

    private void lineWord(int had, int most, String... words) throws Fault {
        for (String w : words) {
            if (is(w)) {
                if (had >= most) {
                    throw new Fault(3, hand().place);
                }
                return;
            }
        }
        throw new Fault(1, hand().place);
    }

    private Value unit() throws Fault {
        if (hand().kind == 'n') {
            int v = number(0, 9999);
            return f -> v;
        }
        for (String name : new String[] {"mule", "age", "strong", "liking", "heeded", "hand", "songs", "snow", "hours", "day"}) {
            if (take(name)) {
                return f -> f.get(name);
            }
        }
        throw new Fault(1, hand().place);
    }

    private Value term() throws Fault {
        Value v = unit();
        while (true) {
            Value left = v;
            if (take("*")) {
                Value right = unit();
                v = f -> left.of(f) * right.of(f);
            } else if (take("/")) {
                int by = number(1, 9999);
                v = f -> left.of(f) / by;
            } else {
                return v;
            }
        }
    }

    private Value expression() throws Fault {
        Value v = term();
        while (true) {
            Value left = v;
            if (take("+")) {
                Value right = term();
                v = f -> left.of(f) + right.of(f);
            } else if (take("-")) {
                Value right = term();
                v = f -> left.of(f) - right.of(f);
            } else {
                return v;
            }
        }
    }

    private Test anyOf(int open) throws Fault {
        Test t = allOf(open);
        while (take("or")) {
            Test left = t;
            Test right = allOf(open);
            t = f -> left.of(f) || right.of(f);
        }
        return t;
    }

    private Test allOf(int open) throws Fault {
        Test t = condition(open);
        while (take("and")) {
            Test left = t;
            Test right = condition(open);
            t = f -> left.of(f) && right.of(f);
        }
        return t;
    }

    private Test condition(int open) throws Fault {
        if (is("not") || is("(")) {
            if (open == 8) {
                throw new Fault(3, hand().place);
            }
            if (take("not")) {
                Test inner = condition(open + 1);
                return f -> !inner.of(f);
            }
            at++;
            Test inner = anyOf(open + 1);
            must(")");
            return inner;
        }
        Value left = expression();
        String sign = is("<") ? "<" : is("=") ? "=" : ">";
        must(sign);
        Value right = expression();
        return f -> {
            int order = Integer.compare(left.of(f), right.of(f));
            return sign.equals("<") ? order < 0 : sign.equals("=") ? order == 0 : order > 0;
        };
    }

    private List<LawLine> readLaw() throws Fault {
        List<LawLine> law = new ArrayList<>();
        while (hand().kind != 'e') {
            lineWord(law.size(), 16, "lean", "need", "risk");
            LawLine l = new LawLine();
            l.word = hand().text;
            at++;
            l.value = expression();
            if (take("when")) {
                l.when = anyOf(0);
            }
            must(";");
            law.add(l);
        }
        return law;
    }

    private List<int[]> readHeeds() throws Fault {
        List<int[]> list = new ArrayList<>();
        int last = now.mules.size() - 1;
        while (hand().kind != 'e') {
            lineWord(list.size(), 16, "mule");
            at++;
            List<Integer> line = new ArrayList<>();
            int mule = number(0, last);
            line.add(mule);
            must("heeds");
            do {
                line.add(unlike(0, last, mule));
            } while (take("and"));
            must(";");
            list.add(line.stream().mapToInt(i -> i).toArray());
        }
        return list;
    }

    private List<Object[]> readPlans() throws Fault {
        List<Object[]> list = new ArrayList<>();
        while (hand().kind != 'e') {
            lineWord(list.size(), 16, "on");
            at++;
            int day = number(0, 999);
            String word = hand().text;
            if (!Arrays.asList("salt", "sing", "whip", "vote", "go").contains(word)) {
                throw new Fault(1, hand().place);
            }
            at++;
            int a = 0;
            int b = 0;
            if (word.equals("go")) {
                a = number(0, 9);
            } else if (!word.equals("vote")) {
                a = number(0, now.men.size() - 1);
            }
            if (word.equals("salt") || word.equals("whip")) {
                b = number(0, now.mules.size() - 1);
            }
            must(";");
            list.add(new Object[] {day, word, a, b});
        }
        return list;
    }

    private List<int[]> readPaths() throws Fault {
        List<int[]> list = new ArrayList<>();
        while (hand().kind != 'e') {
            lineWord(list.size(), 16, "path");
            at++;
            int a = number(0, 9);
            int b = unlike(0, 9, a);
            must("hours");
            int h = number(1, 24);
            must(";");
            list.add(new int[] {a, b, h});
        }
        return list;
    }

    private List<int[]> readLoads() throws Fault {
        List<int[]> list = new ArrayList<>();
        while (hand().kind != 'e') {
            lineWord(list.size(), 8, "load");
            at++;
            int n = number(1, 40);
            must("worth");
            int w = number(1, 99);
            must(";");
            list.add(new int[] {n, w});
        }
        return list;
    }

    int text(int k) {
        tokens = cut(tape);
        at = 0;
        tape = "";
        fault = 0;
        faultPlace = NONE;
        try {
            switch (k) {
                case 0: texts.law = readLaw(); return texts.law.size();
                case 1: texts.heeds = readHeeds(); past.clear(); return texts.heeds.size();
                case 2: texts.plans = readPlans(); past.clear(); return texts.plans.size();
                case 3: texts.paths = readPaths(); past.clear(); return texts.paths.size();
                case 4: texts.loads = readLoads(); return texts.loads.size();
                default: return NONE;
            }
        } catch (Fault f) {
            fault = f.code;
            faultPlace = f.place;
            return NONE;
        }
    }

    int fault(int what) {
        return what == 0 ? fault : what == 1 ? faultPlace : NONE;
    }

    private static int bits(Iterable<Integer> set) {
        int v = 0;
        for (int i : set) {
            v += 1 << i;
        }
        return v;
    }

    int of(int mule, int what) {
        if (!isMule(mule)) {
            return -2;
        }
        Mule m = now.mules.get(mule);
        if (what == 0) {
            return m.strong;
        } else if (what == 1) {
            return m.age;
        } else if (what == 2) {
            return m.lame ? 1 : 0;
        } else if (what == 3) {
            return orNone(m.behind);
        } else if (what == 4) {
            return bits(heededBy(mule));
        } else if (what == 5) {
            return need(now, mule);
        } else if (in(what, 10, 19) && isMan(what - 10)) {
            return m.liking[what - 10];
        } else if (in(what, 20, 29) && isMan(what - 20)) {
            return lean(now, mule, what - 20);
        } else if (in(what, 31, 54)) {
            return risk(now, mule, what - 30, now.driver);
        }
        return -2;
    }

    int manOf(int man, int what) {
        if (!isMan(man) || !in(what, 0, 3)) {
            return NONE;
        }
        Man w = now.men.get(man);
        List<Integer> behind = new ArrayList<>();
        for (int i = 0; i < now.mules.size(); i++) {
            if (orNone(now.mules.get(i).behind) == man) {
                behind.add(i);
            }
        }
        return new int[] {w.salt, w.hand, w.songs, bits(behind)}[what];
    }

    int path(int a, int b) {
        for (int[] p : texts.paths) {
            if (p[0] == a && p[1] == b) {
                return p[2];
            }
        }
        return NONE;
    }

    int book(int i, int what) {
        return in(i, 0, now.book.size() - 1) && in(what, 0, 3) ? now.book.get(i)[what] : -2;
    }

    int stands(int mule) {
        if (!isMule(mule)) {
            return -2;
        }
        Scene s = now.copy();
        castVote(s);
        return orNone(s.mules.get(mule).behind);
    }

    int settles(int what) {
        Scene s = now.copy();
        int rounds = castVote(s);
        return what == 0 ? rounds : what == 1 ? orNone(s.driver) : -2;
    }

    int goes(int n, int what) {
        if (!in(n, 1, 60) || !in(what, 0, 3)) {
            return -2;
        }
        Scene s = now.copy();
        for (int i = 0; i < n; i++) {
            passDay(s, true);
        }
        return new int[] {orNone(s.driver), s.at, s.hours, s.ties}[what];
    }

    int wins(int man, int what) {
        if (!isMan(man) || !in(what, 0, 1)) {
            return NONE;
        }
        int best = NONE;
        for (int set = 0; set < 1 << now.mules.size(); set++) {
            if (best != NONE && Integer.bitCount(set) >= Integer.bitCount(best)) {
                continue;
            }
            Scene s = now.copy();
            for (int i = 0; i < s.mules.size(); i++) {
                if ((set & 1 << i) != 0) {
                    s.mules.get(i).liking[man] = Math.min(99, s.mules.get(i).liking[man] + 15);
                }
            }
            castVote(s);
            if (orNone(s.driver) == man) {
                best = set;
            }
        }
        return best == NONE ? NONE : what == 0 ? Integer.bitCount(best) : best;
    }

    int turnsBy(int mule) {
        if (!isMule(mule)) {
            return NONE;
        }
        Scene with = now.copy();
        castVote(with);
        Scene without = now.copy();
        without.mules.get(mule).lame = true;
        castVote(without);
        return orNone(with.driver) == orNone(without.driver) ? 0 : 1;
    }

    private int cost(int a, int b, boolean byRisk) {
        int hours = path(a, b);
        if (!byRisk || hours == NONE) {
            return hours;
        }
        int worst = 0;
        for (int i = 0; i < now.mules.size(); i++) {
            if (!now.mules.get(i).lame) {
                worst = Math.max(worst, risk(now, i, hours, now.driver));
            }
        }
        return worst;
    }

    /** By trying every way that comes to no camp twice. */
    private int least(int a, int b, boolean byRisk, Set<Integer> been) {
        if (a == b) {
            return 0;
        }
        int best = NONE;
        been.add(a);
        for (int c = 0; c < 10; c++) {
            int step = been.contains(c) ? NONE : cost(a, c, byRisk);
            int rest = step == NONE ? NONE : least(c, b, byRisk, been);
            if (rest != NONE && (best == NONE || step + rest < best)) {
                best = step + rest;
            }
        }
        been.remove(a);
        return best;
    }

    int way(int a, int b, int what) {
        if (!in(a, 0, 9) || !in(b, 0, 9) || !in(what, 0, 2) || what == 1 && a == b) {
            return NONE;
        }
        int best = least(a, b, what == 2, new HashSet<>());
        if (what != 1 || best == NONE) {
            return best;
        }
        for (int c = 0; c < 10; c++) {
            int rest = path(a, c) == NONE ? NONE : least(c, b, false, new HashSet<>());
            if (rest != NONE && path(a, c) + rest == best) {
                return c;
            }
        }
        throw new IllegalStateException("no next camp");
    }

    private boolean canCarry(int set, int[] room) {
        if (set == 0) {
            return true;
        }
        int load = Integer.numberOfTrailingZeros(set);
        int n = texts.loads.get(load)[0];
        for (int i = 0; i < room.length; i++) {
            if (room[i] >= n) {
                room[i] -= n;
                boolean can = canCarry(set & set - 1, room);
                room[i] += n;
                if (can) {
                    return true;
                }
            }
        }
        return false;
    }

    int packs(int what) {
        if (!in(what, 0, 1)) {
            return NONE;
        }
        int[] room = now.mules.stream().filter(m -> !m.lame).mapToInt(m -> m.strong).toArray();
        TreeMap<Integer, Integer> leastSet = new TreeMap<>();
        for (int set = 0; set < 1 << texts.loads.size(); set++) {
            int worth = 0;
            for (int i = 0; i < texts.loads.size(); i++) {
                worth += (set & 1 << i) != 0 ? texts.loads.get(i)[1] : 0;
            }
            boolean hopeless = !leastSet.isEmpty() && worth <= leastSet.lastKey();
            if (!hopeless && canCarry(set, room)) {
                leastSet.putIfAbsent(worth, set);
            }
        }
        return what == 0 ? leastSet.lastKey() : leastSet.lastEntry().getValue();
    }

    private int longest(int from, Set<Integer> been) {
        been.add(from);
        int best = 0;
        for (int next : heededBy(from)) {
            if (!been.contains(next)) {
                best = Math.max(best, longest(next, been));
            }
        }
        been.remove(from);
        return best + 1;
    }

    int row() {
        int best = 0;
        for (int i = 0; i < now.mules.size(); i++) {
            best = Math.max(best, longest(i, new HashSet<>()));
        }
        return best;
    }

    int seen(int mule, int man, boolean stood) {
        if (mule == NONE) {
            texts.seen.clear();
            return 0;
        }
        if (!isMule(mule) || !isMan(man) || texts.seen.size() == 12) {
            return NONE;
        }
        texts.seen.add(new int[] {mule, man, stood ? 1 : 0});
        return texts.seen.size();
    }

    int fits(int what) {
        List<Integer> fitting = new ArrayList<>();
        for (int k = 0; k < 100; k++) {
            boolean all = true;
            for (int[] s : texts.seen) {
                all &= (now.mules.get(s[0]).liking[s[1]] >= k) == (s[2] == 1);
            }
            if (all) {
                fitting.add(k);
            }
        }
        if (what == 0) {
            return fitting.size();
        }
        if (what == 1) {
            return fitting.isEmpty() ? NONE : fitting.get(0);
        }
        if (!in(what, 2, 3) || fitting.size() < 2) {
            return NONE;
        }
        long best = Long.MAX_VALUE;
        int[] ask = {NONE, NONE};
        for (int i = 0; i < now.mules.size(); i++) {
            for (int w = 0; w < now.men.size(); w++) {
                int liking = now.mules.get(i).liking[w];
                long low = fitting.stream().filter(k -> k <= liking).count();
                long high = fitting.stream().filter(k -> k > liking).count();
                if (Math.max(low, high) < best) {
                    best = Math.max(low, high);
                    ask = new int[] {i, w};
                }
            }
        }
        return ask[what - 2];
    }

    int led(int lame, int h, int what) {
        if (now.men.isEmpty() || lame < 0 || lame >> now.mules.size() != 0 || !in(h, 1, 24) || !in(what, 0, 1)) {
            return NONE;
        }
        long best = -1;
        int who = NONE;
        for (int w = 0; w < now.men.size(); w++) {
            long p = 1000000;
            for (int i = 0; i < now.mules.size(); i++) {
                long r = risk(now, i, h, w);
                p = Math.floorDiv(p * ((lame >> i & 1) == 1 ? r : 1000 - r), 1000L);
            }
            if (p > best) {
                best = p;
                who = w;
            }
        }
        return what == 0 ? who : (int) best;
    }

    /** Whether who is to take wins, tried out to the end. */
    private static boolean isWon(List<Integer> salts, Map<List<Integer>, Boolean> known) {
        Boolean was = known.get(salts);
        if (was != null) {
            return was;
        }
        boolean won = false;
        for (int i = 0; i < salts.size() && !won; i++) {
            int has = salts.get(i);
            for (int taken : new int[] {1, (has + 1) / 2}) {
                if (has > 0 && !won) {
                    List<Integer> then = new ArrayList<>(salts);
                    then.set(i, has - taken);
                    won = !isWon(then, known);
                }
            }
        }
        known.put(salts, won);
        return won;
    }

    /** NONE - 1 where it would take too long to try it out. */
    int game(int what) {
        if (!in(what, 0, 1)) {
            return NONE;
        }
        long states = 1;
        List<Integer> salts = new ArrayList<>();
        for (Man m : now.men) {
            salts.add(m.salt);
            states *= m.salt + 1;
        }
        if (states > 3000) {
            return -2;
        }
        Map<List<Integer>, Boolean> known = new HashMap<>();
        for (int i = 0; i < salts.size(); i++) {
            for (int left = 0; left < salts.get(i); left++) {
                int has = salts.get(i);
                List<Integer> then = new ArrayList<>(salts);
                then.set(i, left);
                boolean may = left == has - 1 || has - left == (has + 1) / 2;
                if (may && !isWon(then, known)) {
                    return what == 0 ? i : left;
                }
            }
        }
        return NONE;
    }

    int share(int sum, int mule) {
        if (!in(sum, 0, 9999) || !isMule(mule)) {
            return NONE;
        }
        int n = now.mules.size();
        int[] weight = new int[n];
        for (int i = 0; i < n; i++) {
            for (int heeded : heededBy(i)) {
                weight[heeded]++;
            }
        }
        int all = Arrays.stream(weight).sum();
        int[] gets = new int[n];
        int left = sum;
        for (int i = 0; i < n && all > 0; i++) {
            gets[i] = (int) ((long) sum * weight[i] / all);
            left -= gets[i];
        }
        for (int i = 0; i < n && left > 0 && all > 0; i++) {
            if (weight[i] > 0) {
                gets[i]++;
                left--;
            }
        }
        return gets[mule];
    }

    /** Where a train is at each hour; NONE between camps. */
    private int[] whereabouts(int camp) {
        int[] where = new int[100];
        Arrays.fill(where, NONE);
        int t = 0;
        while (t < 100) {
            where[t] = camp;
            int[] on = null;
            for (int[] p : texts.paths) {
                if (on == null && p[0] == camp) {
                    on = p;
                }
            }
            if (on == null) {
                t++;
            } else {
                camp = on[1];
                t += on[2];
            }
        }
        return where;
    }

    int meets(int a, int b) {
        if (!in(a, 0, 9) || !in(b, 0, 9)) {
            return NONE;
        }
        int[] x = whereabouts(a);
        int[] y = whereabouts(b);
        for (int t = 0; t < 100; t++) {
            if (x[t] != NONE && x[t] == y[t]) {
                return t;
            }
        }
        return NONE;
    }

    boolean undo() {
        if (past.isEmpty()) {
            return false;
        }
        now = past.removeLast();
        return true;
    }

    boolean image(boolean taken) {
        if (taken) {
            imageScene = now.copy();
            imageTexts = texts.copy();
            return true;
        }
        if (imageScene == null) {
            return false;
        }
        now = imageScene.copy();
        texts = imageTexts.copy();
        past.clear();
        return true;
    }

    int look(int what) {
        List<Integer> lame = new ArrayList<>();
        for (int i = 0; i < now.mules.size(); i++) {
            if (now.mules.get(i).lame) {
                lame.add(i);
            }
        }
        int[] all = {now.mules.size(), now.men.size(), now.day, now.snow, now.at, orNone(now.driver), now.ties, now.hours,
            bits(lame), now.book.size(), now.draws, texts.law.size(), texts.heeds.size(), texts.plans.size(),
            texts.paths.size(), texts.loads.size(), texts.seen.size(), past.size()};
        return in(what, 0, 17) ? all[what] : NONE;
    }
}
