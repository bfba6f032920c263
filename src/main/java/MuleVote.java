import java.util.Arrays;

/**
 * Mules elect the driver: the train's mules choose by standing behind one of the men.
 * What each call promises is told in ../shared/DOC.md; README.md says how the parts fit together.
 */
public final class MuleVote {

    public static final int NONE = -1;

    private static final int NO_SUCH = NONE - 1;

    private static final int MULES = 12;
    private static final int MEN = 5;
    private static final int CAMPS = 10;
    private static final int MOST_STRONG = 40;
    private static final int MOST_AGE = 40;
    private static final int MOST_LIKING = 99;
    private static final int FIRST_LIKING = 30;
    private static final int MOST_SALT = 99;
    private static final int MOST_SKILL = 9;
    private static final int MOST_SNOW = 9;
    private static final int LAST_DAY = 9999;
    private static final int MOST_DAYS = 60;
    private static final int MOST_HOURS = 24;
    private static final int MOST_SUM = 9999;
    private static final int MEETING_HOURS = 99;

    /** A need or a lean is this at most; a risk of SURE is a certainty. */
    private static final int MOST_LEAN = 999;
    private static final int SURE = 1000;

    private static final int SALT_LIKING = 15;
    private static final int WHIP_LIKING = 20;
    private static final int OTHERS_LIKING = 5;

    private static final int TAPE_BYTES = 400;
    private static final int FED_BYTES = 20;
    private static final int LINES = 16;
    private static final int LOADS = 8;
    private static final int SIGHTS = 12;
    private static final int BOOK_LINES = 150;
    private static final int BOOK_COLUMNS = 4;
    private static final int KEPT = 6;
    private static final int MOST_OPEN = 8;
    private static final int MOST_NUMBER = 9999;
    private static final int LAST_PLAN_DAY = 999;
    private static final int MOST_LOAD = 40;
    private static final int MOST_WORTH = 99;

    /** What can be done, as THE BOOK tells it; the first four are also what act() and PLANS do. */
    private static final int VOTED = 0;
    private static final int SALTED = 1;
    private static final int SUNG = 2;
    private static final int WHIPPED = 3;
    private static final int GONE = 4;
    private static final int LAMED = 5;
    private static final int RESTED = 6;

    /** The TEXTS by their numbers. */
    private static final int LAW_TEXT = 0;
    private static final int HEEDS_TEXT = 1;
    private static final int PLANS_TEXT = 2;
    private static final int PATHS_TEXT = 3;
    private static final int LOADS_TEXT = 4;

    private static final int CANT_STAND = 1;
    private static final int WRONG_NUMBER = 2;
    private static final int TOO_MANY = 3;

    private final World world = new World();
    private final World pictured = new World();
    private boolean isPictured = false;
    private final History history = new History();
    private final Train before = new Train();
    private final Ballot ballot = new Ballot();
    private final Roads roads = new Roads();
    private final Riddles riddles = new Riddles();
    private final Tape tape = new Tape();
    private final LawReader lawReader = new LawReader(tape);
    private final RowsReader rowsReader = new RowsReader(tape);

    public MuleVote() {
    }

    public int state(int v) {
        int was = world.train.draws;
        world.train.draws = v;
        history.forget();
        return was;
    }

    public int mule(int strong, int age) {
        if (!isWithin(strong, 1, MOST_STRONG) || !isWithin(age, 0, MOST_AGE)) {
            return NONE;
        }
        int number = world.train.addMule(strong, age);
        if (number != NONE) {
            history.forget();
        }
        return number;
    }

    public int man(int salt, int hand, int songs) {
        if (!isWithin(salt, 0, MOST_SALT) || !isWithin(hand, 0, MOST_SKILL) || !isWithin(songs, 0, MOST_SKILL)) {
            return NONE;
        }
        int number = world.train.addMan(salt, hand, songs);
        if (number != NONE) {
            history.forget();
        }
        return number;
    }

    public boolean set(int what, int who, int v) {
        boolean told = what >= 3 ? tellOfMan(what, who, v) : tellOfTrain(what, who, v);
        if (told) {
            history.forget();
        }
        return told;
    }

    private boolean tellOfTrain(int what, int who, int v) {
        Train train = world.train;
        if (what == 0 && isWithin(v, 0, MOST_SNOW)) {
            train.snow = v;
            return true;
        }
        if (what == 1 && isCamp(v)) {
            train.camp = v;
            return true;
        }
        if (what == 2 && train.hasMule(who) && isWithin(v, 0, 1)) {
            train.lame[who] = v;
            return true;
        }
        return false;
    }

    private boolean tellOfMan(int what, int who, int v) {
        Train train = world.train;
        if (!train.hasMan(who)) {
            return false;
        }
        if (what == 3 && isWithin(v, 0, MOST_SALT)) {
            train.salt[who] = v;
            return true;
        }
        if (what == 4 && isWithin(v, 0, MOST_SKILL)) {
            train.hand[who] = v;
            return true;
        }
        if (what == 5 && isWithin(v, 0, MOST_SKILL)) {
            train.songs[who] = v;
            return true;
        }
        return false;
    }

    public boolean like(int mule, int man, int v) {
        Train train = world.train;
        if (!train.hasMule(mule) || !train.hasMan(man) || !isWithin(v, 0, MOST_LIKING)) {
            return false;
        }
        train.setLiking(mule, man, v);
        history.forget();
        return true;
    }

    public int vote() {
        history.keep(world.train);
        world.castVote(ballot);
        return world.train.driver;
    }

    public boolean act(int what, int man, int mule) {
        if (!isWithin(what, 0, 2) || !world.canTreat(what + SALTED, man, mule)) {
            return false;
        }
        history.keep(world.train);
        world.treat(what + SALTED, man, mule);
        return true;
    }

    public int go(int camp) {
        int hours = world.hoursOfGoing(camp);
        if (hours == NONE) {
            return NONE;
        }
        history.keep(world.train);
        return world.travel(camp, hours, true);
    }

    public int rest() {
        history.keep(world.train);
        return world.restAll();
    }

    public int days(int n) {
        if (!isWithin(n, 1, MOST_DAYS) || world.train.day > LAST_DAY - n) {
            return NONE;
        }
        int done = 0;
        for (int i = 0; i < n; i++) {
            history.keep(world.train);
            done += world.passDay(ballot, true);
        }
        return done;
    }

    public int feed(int a, int b, int c, int d, int e) {
        if (tape.length > TAPE_BYTES - FED_BYTES) {
            return NONE;
        }
        tape.add(a);
        tape.add(b);
        tape.add(c);
        tape.add(d);
        tape.add(e);
        return tape.length;
    }

    public boolean end(int n) {
        if (n < 0 || n > tape.length) {
            return false;
        }
        tape.length = n;
        return true;
    }

    public int text(int k) {
        int lines = NONE;
        tape.begin();
        if (k == LAW_TEXT && lawReader.read()) {
            world.law.copyFrom(lawReader.law);
            lines = world.law.lines;
        } else if (isWithin(k, HEEDS_TEXT, LOADS_TEXT) && rowsReader.read(k, world.train)) {
            lines = takeRows(k);
        }
        tape.length = 0;
        return lines;
    }

    private int takeRows(int k) {
        Rows told = k == HEEDS_TEXT ? world.heeds : k == PLANS_TEXT ? world.plans
                : k == PATHS_TEXT ? world.paths : world.loads;
        told.copyFrom(rowsReader.rows);
        if (k != LOADS_TEXT) {
            history.forget();
        }
        return told.count;
    }

    public int fault(int what) {
        if (what == 0) {
            return tape.fault;
        }
        return what == 1 ? tape.faultPlace : NONE;
    }

    public int of(int mule, int what) {
        Train train = world.train;
        if (!train.hasMule(mule)) {
            return NO_SUCH;
        }
        if (what > 30) {
            return what <= 30 + MOST_HOURS ? world.riskOf(mule, what - 30, train.driver) : NO_SUCH;
        }
        if (what >= 20) {
            return train.hasMan(what - 20) ? world.leanNow(mule, what - 20) : NO_SUCH;
        }
        if (what >= 10) {
            return train.hasMan(what - 10) ? train.likingFor(mule, what - 10) : NO_SUCH;
        }
        switch (what) {
            case 0: return train.strong[mule];
            case 1: return train.age[mule];
            case 2: return train.lame[mule];
            case 3: return train.behind[mule];
            case 4: return world.heededBy(mule);
            case 5: return world.needOf(mule);
            default: return NO_SUCH;
        }
    }

    public int manOf(int man, int what) {
        Train train = world.train;
        if (!train.hasMan(man)) {
            return NONE;
        }
        switch (what) {
            case 0: return train.salt[man];
            case 1: return train.hand[man];
            case 2: return train.songs[man];
            case 3: return train.behindOf(man);
            default: return NONE;
        }
    }

    public int path(int a, int b) {
        return world.hoursBetween(a, b);
    }

    public int book(int i, int what) {
        if (i < 0 || i >= world.train.written || !isWithin(what, 0, BOOK_COLUMNS - 1)) {
            return NO_SUCH;
        }
        return world.read(i, what);
    }

    public int stands(int mule) {
        if (!world.train.hasMule(mule)) {
            return NO_SUCH;
        }
        ballot.standNow(world);
        return ballot.choiceOf(mule);
    }

    public int settles(int what) {
        if (!isWithin(what, 0, 1)) {
            return NO_SUCH;
        }
        ballot.standNow(world);
        return what == 0 ? ballot.rounds : ballot.driver;
    }

    public int goes(int n, int what) {
        if (!isWithin(n, 1, MOST_DAYS) || !isWithin(what, 0, 3)) {
            return NO_SUCH;
        }
        Train train = world.train;
        before.copyFrom(train);
        for (int i = 0; i < n; i++) {
            world.passDay(ballot, false);
        }
        int then = what == 0 ? train.driver : what == 1 ? train.camp : what == 2 ? train.hours : train.ties;
        train.copyFrom(before);
        return then;
    }

    public int wins(int man, int what) {
        if (!world.train.hasMan(man) || !isWithin(what, 0, 1)) {
            return NONE;
        }
        int set = ballot.fewestSalted(world, man);
        if (set == NONE) {
            return NONE;
        }
        return what == 0 ? Integer.bitCount(set) : set;
    }

    public int turnsBy(int mule) {
        if (!world.train.hasMule(mule)) {
            return NONE;
        }
        ballot.standNow(world);
        int with = ballot.driver;
        ballot.settle(world.train.lameOnes() | 1 << mule, 0, NONE);
        return ballot.driver == with ? 0 : 1;
    }

    public int way(int a, int b, int what) {
        if (!isCamp(a) || !isCamp(b) || !isWithin(what, 0, 2)) {
            return NONE;
        }
        roads.measure(world, what == 2);
        roads.reach(b);
        return what == 1 ? roads.nextFrom(a, b) : roads.farFrom(a);
    }

    public int packs(int what) {
        if (!isWithin(what, 0, 1)) {
            return NONE;
        }
        int set = riddles.bestPack(world);
        return what == 0 ? riddles.worthOf(world, set) : set;
    }

    public int row() {
        return riddles.longestRow(world);
    }

    public int seen(int mule, int man, boolean stood) {
        Rows sights = world.sights;
        if (mule == NONE) {
            sights.clear();
            return 0;
        }
        if (!world.train.hasMule(mule) || !world.train.hasMan(man) || sights.isFull()) {
            return NONE;
        }
        sights.add(mule, man, stood ? 1 : 0, 0);
        return sights.count;
    }

    public int fits(int what) {
        switch (what) {
            case 0: return riddles.countFits(world);
            case 1: return riddles.leastFit(world);
            case 2: return riddles.bestAsk(world, true);
            case 3: return riddles.bestAsk(world, false);
            default: return NONE;
        }
    }

    public int led(int lame, int h, int what) {
        Train train = world.train;
        if (lame < 0 || lame >= 1 << train.mules || !isWithin(h, 1, MOST_HOURS) || !isWithin(what, 0, 1)) {
            return NONE;
        }
        int best = NONE;
        int most = NONE;
        for (int man = 0; man < train.men; man++) {
            int likely = world.likelihood(lame, h, man);
            if (likely > most) {
                most = likely;
                best = man;
            }
        }
        return what == 0 ? best : most;
    }

    public int game(int what) {
        if (!isWithin(what, 0, 1)) {
            return NONE;
        }
        return riddles.bestTaking(world.train, what == 0);
    }

    public int share(int sum, int mule) {
        if (!isWithin(sum, 0, MOST_SUM) || !world.train.hasMule(mule)) {
            return NONE;
        }
        return riddles.shareOf(world, sum, mule);
    }

    public int meets(int a, int b) {
        if (!isCamp(a) || !isCamp(b)) {
            return NONE;
        }
        return roads.meeting(world, a, b);
    }

    public boolean undo() {
        return history.giveBack(world.train);
    }

    public boolean image(boolean taken) {
        if (taken) {
            pictured.copyFrom(world);
            isPictured = true;
            return true;
        }
        if (!isPictured) {
            return false;
        }
        world.copyFrom(pictured);
        history.forget();
        return true;
    }

    public int look(int what) {
        Train train = world.train;
        switch (what) {
            case 0: return train.mules;
            case 1: return train.men;
            case 2: return train.day;
            case 3: return train.snow;
            case 4: return train.camp;
            case 5: return train.driver;
            case 6: return train.ties;
            case 7: return train.hours;
            case 8: return train.lameOnes();
            case 9: return train.written;
            case 10: return train.draws;
            case 11: return world.law.lines;
            case 12: return world.heeds.count;
            case 13: return world.plans.count;
            case 14: return world.paths.count;
            case 15: return world.loads.count;
            case 16: return world.sights.count;
            case 17: return history.count;
            default: return NONE;
        }
    }

    private static boolean isWithin(int v, int least, int most) {
        return v >= least && v <= most;
    }

    private static boolean isCamp(int v) {
        return v >= 0 && v < CAMPS;
    }

    private static boolean isIn(int set, int member) {
        return (set >> member & 1) != 0;
    }

    private static void copyRow(int[] from, int[] to) {
        System.arraycopy(from, 0, to, 0, Math.min(from.length, to.length));
    }

    /** All that a VOTE, SALT, SONG, WHIP, GOING, REST or DAY can move, so that UNDO is a copy back. */
    private static final class Train {
        final int[] strong = new int[MULES];
        final int[] age = new int[MULES];
        final int[] lame = new int[MULES];
        final int[] behind = new int[MULES];
        final int[] salt = new int[MEN];
        final int[] hand = new int[MEN];
        final int[] songs = new int[MEN];
        private final int[] liking = new int[MULES * MEN];
        int mules = 0;
        int men = 0;
        int draws = 0;
        int snow = 0;
        int camp = 0;
        int driver = NONE;
        int ties = 0;
        int hours = 0;
        int day = 0;
        /** How many lines THE BOOK has: what stands in it behind them is of no account. */
        int written = 0;

        Train() {
            Arrays.fill(behind, NONE);
            Arrays.fill(liking, FIRST_LIKING);
        }

        void copyFrom(Train other) {
            copyRow(other.strong, strong);
            copyRow(other.age, age);
            copyRow(other.lame, lame);
            copyRow(other.behind, behind);
            copyRow(other.salt, salt);
            copyRow(other.hand, hand);
            copyRow(other.songs, songs);
            copyRow(other.liking, liking);
            mules = other.mules;
            men = other.men;
            draws = other.draws;
            snow = other.snow;
            camp = other.camp;
            driver = other.driver;
            ties = other.ties;
            hours = other.hours;
            day = other.day;
            written = other.written;
        }

        boolean hasMule(int m) {
            return m >= 0 && m < mules && m < MULES;
        }

        boolean hasMan(int m) {
            return m >= 0 && m < men && m < MEN;
        }

        int addMule(int strength, int years) {
            if (mules < 0 || mules >= MULES) {
                return NONE;
            }
            strong[mules] = strength;
            age[mules] = years;
            mules++;
            return mules - 1;
        }

        int addMan(int itsSalt, int itsHand, int itsSongs) {
            if (men < 0 || men >= MEN) {
                return NONE;
            }
            salt[men] = itsSalt;
            hand[men] = itsHand;
            songs[men] = itsSongs;
            men++;
            return men - 1;
        }

        int likingFor(int mule, int man) {
            return hasMule(mule) && hasMan(man) ? liking[mule * MEN + man] : 0;
        }

        /** A LIKING beyond its bounds stops at them. */
        void setLiking(int mule, int man, int v) {
            if (hasMule(mule) && hasMan(man)) {
                liking[mule * MEN + man] = Math.max(0, Math.min(MOST_LIKING, v));
            }
        }

        void moveLiking(int mule, int man, int by) {
            setLiking(mule, man, likingFor(mule, man) + by);
        }

        int lameOnes() {
            int set = 0;
            for (int m = 0; m < mules && m < MULES; m++) {
                if (lame[m] != 0) {
                    set |= 1 << m;
                }
            }
            return set;
        }

        int behindOf(int man) {
            int set = 0;
            for (int m = 0; m < mules && m < MULES; m++) {
                if (behind[m] == man) {
                    set |= 1 << m;
                }
            }
            return set;
        }

        int draw(int m) {
            draws = 1664525 * draws + 1013904223;
            return m > 0 ? (draws >>> 8) % m : 0;
        }
    }

    /** Lines of up to four numbers each: those of a TEXT, or what was SEEN. */
    private static final class Rows {
        private static final int COLUMNS = 4;
        private final int[] cells = new int[LINES * COLUMNS];
        private final int capacity;
        int count = 0;

        Rows(int capacity) {
            this.capacity = Math.max(0, Math.min(LINES, capacity));
        }

        void clear() {
            count = 0;
        }

        boolean isFull() {
            return count >= capacity;
        }

        void add(int a, int b, int c, int d) {
            if (count >= 0 && count < capacity) {
                int first = count * COLUMNS;
                cells[first] = a;
                cells[first + 1] = b;
                cells[first + 2] = c;
                cells[first + 3] = d;
                count++;
            }
        }

        int cell(int line, int column) {
            if (line < 0 || line >= count || count > LINES || column < 0 || column >= COLUMNS) {
                return 0;
            }
            return cells[line * COLUMNS + column];
        }

        void copyFrom(Rows other) {
            copyRow(other.cells, cells);
            count = Math.min(other.count, capacity);
        }
    }

    /** THE LAW: of each line its E and its B as code in which a sign stands behind its two sides. */
    private static final class Law {
        static final int LEAN = 0;
        static final int NEED = 1;
        static final int RISK = 2;

        static final int NUMBER = 0;
        static final int FACT = 1;
        static final int PART = 2;
        static final int TIMES = 3;
        static final int PLUS = 4;
        static final int MINUS = 5;
        static final int LESS = 6;
        static final int ALIKE = 7;
        static final int MORE = 8;
        static final int NOT = 9;
        static final int AND = 10;
        static final int OR = 11;

        private final int[] words = new int[LINES];
        private final int[] begins = new int[LINES];
        private final int[] whens = new int[LINES];
        private final int[] ends = new int[LINES];
        private final int[] code = new int[TAPE_BYTES];
        private final int[] values = new int[TAPE_BYTES];
        private final int[] stack = new int[TAPE_BYTES];
        private int size = 0;
        int lines = 0;

        void clear() {
            size = 0;
            lines = 0;
        }

        void copyFrom(Law other) {
            copyRow(other.words, words);
            copyRow(other.begins, begins);
            copyRow(other.whens, whens);
            copyRow(other.ends, ends);
            copyRow(other.code, code);
            copyRow(other.values, values);
            size = other.size;
            lines = other.lines;
        }

        boolean isFull() {
            return lines >= LINES;
        }

        void beginLine(int word) {
            if (lines >= 0 && lines < LINES) {
                words[lines] = word;
                begins[lines] = size;
                whens[lines] = NONE;
            }
        }

        void beginWhen() {
            if (lines >= 0 && lines < LINES) {
                whens[lines] = size;
            }
        }

        void endLine() {
            if (lines >= 0 && lines < LINES) {
                ends[lines] = size;
                lines++;
            }
        }

        void emit(int op, int value) {
            if (size >= 0 && size < TAPE_BYTES) {
                code[size] = op;
                values[size] = value;
                size++;
            }
        }

        /** What the first fitting line with that word tells, or usual, if there is none. */
        int tells(int word, int[] facts, int usual) {
            for (int i = 0; i < lines && i < LINES; i++) {
                if (words[i] == word) {
                    if (whens[i] == NONE) {
                        return run(begins[i], ends[i], facts);
                    }
                    if (run(whens[i], ends[i], facts) != 0) {
                        return run(begins[i], whens[i], facts);
                    }
                }
            }
            return usual;
        }

        private int run(int from, int to, int[] facts) {
            int top = NONE;
            for (int i = from; i >= 0 && i < to && i < TAPE_BYTES; i++) {
                int value = values[i];
                if (code[i] == NUMBER || code[i] == FACT) {
                    if (top < TAPE_BYTES - 1) {
                        top++;
                        boolean known = value >= 0 && value < facts.length;
                        stack[top] = code[i] == NUMBER ? value : known ? facts[value] : 0;
                    }
                    continue;
                }
                boolean isAlone = code[i] == PART || code[i] == NOT;
                if (top < (isAlone ? 0 : 1)) {
                    continue;
                }
                int right = stack[top];
                top -= isAlone ? 0 : 1;
                int left = stack[top];
                switch (code[i]) {
                    case PART: stack[top] = value == 0 ? 0 : left / value; break;
                    case TIMES: stack[top] = left * right; break;
                    case PLUS: stack[top] = left + right; break;
                    case MINUS: stack[top] = left - right; break;
                    case LESS: stack[top] = left < right ? 1 : 0; break;
                    case ALIKE: stack[top] = left == right ? 1 : 0; break;
                    case MORE: stack[top] = left > right ? 1 : 0; break;
                    case NOT: stack[top] = 1 - left; break;
                    case AND: stack[top] = left & right; break;
                    default: stack[top] = left | right; break;
                }
            }
            return top >= 0 ? stack[top] : 0;
        }
    }

    /** The bytes that were fed, and the token of them that is at hand while a TEXT is read. */
    private static final class Tape {
        private static final int THE_END = 0;
        private static final int LETTERS = 1;
        private static final int DIGITS = 2;
        private static final int SIGN = 3;
        private static final int LONGEST_NUMBER = 4;

        private final int[] bytes = new int[TAPE_BYTES];
        int length = 0;
        private int at = 0;
        private int place = 0;
        private int kind = THE_END;
        private int value = 0;
        int fault = 0;
        int faultPlace = NONE;

        void add(int four) {
            for (int shift = 24; shift >= 0; shift -= 8) {
                if (length >= 0 && length < TAPE_BYTES) {
                    bytes[length] = four >>> shift & 255;
                    length++;
                }
            }
        }

        void begin() {
            fault = 0;
            faultPlace = NONE;
            at = 0;
            next();
        }

        /** The token behind the one at hand is at hand. */
        void next() {
            while (at < length && (byteAt(at) == 32 || byteAt(at) == 10)) {
                at++;
            }
            place = at;
            value = byteAt(at);
            if (at >= length) {
                kind = THE_END;
            } else if (isLetter(value)) {
                kind = LETTERS;
                while (at < length && isLetter(byteAt(at))) {
                    at++;
                }
            } else if (isDigit(value)) {
                kind = DIGITS;
                value = 0;
                while (at < length && isDigit(byteAt(at))) {
                    value = value * 10 + byteAt(at) - '0';
                    at++;
                }
            } else {
                kind = SIGN;
                at++;
            }
        }

        /** NONE behind the end, which is neither a letter nor a digit: so no token goes beyond it. */
        private int byteAt(int i) {
            return i >= 0 && i < length && i < TAPE_BYTES ? bytes[i] : NONE;
        }

        private static boolean isLetter(int c) {
            return c >= 'a' && c <= 'z' || c >= 'A' && c <= 'Z';
        }

        private static boolean isDigit(int c) {
            return c >= '0' && c <= '9';
        }

        boolean isEnd() {
            return kind == THE_END;
        }

        boolean isSign(char sign) {
            return kind == SIGN && value == sign;
        }

        boolean isNumber() {
            return kind == DIGITS && at - place <= LONGEST_NUMBER;
        }

        int number() {
            return value;
        }

        boolean isWord(String word) {
            if (kind != LETTERS || at - place != word.length()) {
                return false;
            }
            for (int i = 0; i < word.length(); i++) {
                if (byteAt(place + i) != word.charAt(i)) {
                    return false;
                }
            }
            return true;
        }

        boolean takeSign(char sign) {
            if (!isSign(sign)) {
                return false;
            }
            next();
            return true;
        }

        boolean takeWord(String word) {
            if (!isWord(word)) {
                return false;
            }
            next();
            return true;
        }

        boolean expectWord(String word) {
            return takeWord(word) || fail(CANT_STAND);
        }

        boolean expectSign(char sign) {
            return takeSign(sign) || fail(CANT_STAND);
        }

        /** The number at hand, if it is one within the bounds and unlike the barred one; else NONE and a FAULT. */
        int expectNumber(int least, int most, int barred) {
            if (!isNumber()) {
                fail(CANT_STAND);
                return NONE;
            }
            int number = value;
            if (number < least || number > most || number == barred) {
                fail(WRONG_NUMBER);
                return NONE;
            }
            next();
            return number;
        }

        /** Reading stops at the first FAULT, so there is never a second one to compare. Always false. */
        boolean fail(int code) {
            fault = code;
            faultPlace = place;
            return false;
        }
    }

    /** Reads THE LAW token by token; signs wait in a row until what binds looser comes. */
    private static final class LawReader {
        private static final int UNIT = 0;
        private static final int CONDITION = 1;
        private static final int BEHIND_UNIT = 2;
        private static final int BEHIND_CONDITION = 3;
        private static final int OPEN = 12;

        private final Tape tape;
        final Law law = new Law();
        private final int[] waiting = new int[TAPE_BYTES];
        private int waits = 0;
        private int brackets = 0;
        /** How many ( and not are open. */
        private int opens = 0;
        private int expected = UNIT;
        private boolean inWhen = false;
        private boolean isCompared = false;

        LawReader(Tape tape) {
            this.tape = tape;
        }

        /** Whether the tape is a LAW without a FAULT; the law holds it then. */
        boolean read() {
            law.clear();
            for (int i = 0; i <= TAPE_BYTES && !tape.isEnd(); i++) {
                if (!readLine()) {
                    return false;
                }
            }
            return true;
        }

        private boolean readLine() {
            int word = tape.isWord("lean") ? Law.LEAN : tape.isWord("need") ? Law.NEED
                    : tape.isWord("risk") ? Law.RISK : NONE;
            if (word == NONE) {
                return tape.fail(CANT_STAND);
            }
            if (law.isFull()) {
                return tape.fail(TOO_MANY);
            }
            tape.next();
            law.beginLine(word);
            waits = 0;
            brackets = 0;
            opens = 0;
            inWhen = false;
            expected = UNIT;
            boolean goesOn = true;
            for (int i = 0; i <= TAPE_BYTES && goesOn; i++) {
                goesOn = expected == UNIT || expected == CONDITION ? readOperand() : readSign();
            }
            return tape.fault == 0;
        }

        /** Whether the line goes on behind it. */
        private boolean readOperand() {
            if (expected == CONDITION) {
                isCompared = false;
                if (tape.isWord("not")) {
                    return readOpening(Law.NOT);
                }
                if (tape.isSign('(')) {
                    return readOpening(OPEN);
                }
            }
            if (tape.isNumber()) {
                law.emit(Law.NUMBER, tape.number());
            } else {
                int fact = factAtHand();
                if (fact == NONE) {
                    return tape.fail(CANT_STAND);
                }
                law.emit(Law.FACT, fact);
            }
            tape.next();
            expected = BEHIND_UNIT;
            return true;
        }

        /** Behind it a condition is expected still. */
        private boolean readOpening(int op) {
            if (opens >= MOST_OPEN) {
                return tape.fail(TOO_MANY);
            }
            opens++;
            if (op == OPEN) {
                brackets++;
            }
            push(op);
            tape.next();
            return true;
        }

        /** Whether the line goes on behind it. */
        private boolean readSign() {
            if (expected == BEHIND_UNIT) {
                if (tape.isSign('/')) {
                    return readPart();
                }
                int op = tape.isSign('*') ? Law.TIMES : tape.isSign('+') ? Law.PLUS
                        : tape.isSign('-') ? Law.MINUS : NONE;
                if (op != NONE) {
                    return join(op, UNIT);
                }
                if (!inWhen) {
                    return readWhen();
                }
                if (!isCompared) {
                    return readComparison();
                }
            }
            if (tape.isWord("and")) {
                return join(Law.AND, CONDITION);
            }
            if (tape.isWord("or")) {
                return join(Law.OR, CONDITION);
            }
            if (brackets > 0) {
                return readClosing();
            }
            return endLine();
        }

        private boolean readPart() {
            release(rank(Law.PART));
            tape.next();
            int number = tape.expectNumber(1, MOST_NUMBER, NONE);
            if (number == NONE) {
                return false;
            }
            law.emit(Law.PART, number);
            return true;
        }

        private boolean readWhen() {
            if (!tape.isWord("when")) {
                return endLine();
            }
            release(1);
            law.beginWhen();
            tape.next();
            inWhen = true;
            expected = CONDITION;
            return true;
        }

        private boolean readComparison() {
            int op = tape.isSign('<') ? Law.LESS : tape.isSign('=') ? Law.ALIKE
                    : tape.isSign('>') ? Law.MORE : NONE;
            if (op == NONE) {
                return tape.fail(CANT_STAND);
            }
            isCompared = true;
            return join(op, UNIT);
        }

        private boolean readClosing() {
            if (!tape.isSign(')')) {
                return tape.fail(CANT_STAND);
            }
            release(1);
            waits = Math.max(0, waits - 1);
            brackets--;
            opens--;
            tape.next();
            expected = BEHIND_CONDITION;
            return true;
        }

        /** The line does not go on: always false. */
        private boolean endLine() {
            if (!tape.isSign(';')) {
                return tape.fail(CANT_STAND);
            }
            release(1);
            law.endLine();
            tape.next();
            return false;
        }

        private boolean join(int op, int then) {
            release(rank(op));
            push(op);
            tape.next();
            expected = then;
            return true;
        }

        private void push(int op) {
            if (waits >= 0 && waits < waiting.length) {
                waiting[waits] = op;
                waits++;
            }
        }

        /** Those that wait and bind that much at least are done; a ( binds nothing and stops it. */
        private void release(int least) {
            while (waits > 0 && waits <= waiting.length && rank(waiting[waits - 1]) >= least) {
                waits--;
                law.emit(waiting[waits], 0);
                if (waiting[waits] == Law.NOT) {
                    opens--;
                }
            }
        }

        private static int rank(int op) {
            switch (op) {
                case OPEN: return 0;
                case Law.OR: return 1;
                case Law.AND: return 2;
                case Law.NOT: return 3;
                case Law.PLUS:
                case Law.MINUS: return 5;
                case Law.TIMES:
                case Law.PART: return 6;
                default: return 4;
            }
        }

        private int factAtHand() {
            return tape.isWord("mule") ? World.MULE
                    : tape.isWord("age") ? World.AGE
                    : tape.isWord("strong") ? World.STRONG
                    : tape.isWord("liking") ? World.LIKING
                    : tape.isWord("heeded") ? World.HEEDED
                    : tape.isWord("hand") ? World.HAND
                    : tape.isWord("songs") ? World.SONGS
                    : tape.isWord("snow") ? World.SNOW
                    : tape.isWord("hours") ? World.HOURS
                    : tape.isWord("day") ? World.DAY
                    : NONE;
        }
    }

    /** Reads HEEDS (mule, set), PLANS (day, what, man or camp, mule), PATHS (from, to, hours), LOADS (load, worth). */
    private static final class RowsReader {
        private final Tape tape;
        final Rows rows = new Rows(LINES);

        RowsReader(Tape tape) {
            this.tape = tape;
        }

        /** Whether the tape is a TEXT k without a FAULT; the rows hold it then. */
        boolean read(int k, Train train) {
            rows.clear();
            for (int i = 0; i <= TAPE_BYTES && !tape.isEnd(); i++) {
                if (!readLine(k, train) || !tape.expectSign(';')) {
                    return false;
                }
            }
            return true;
        }

        private boolean readLine(int k, Train train) {
            String first = k == HEEDS_TEXT ? "mule" : k == PLANS_TEXT ? "on" : k == PATHS_TEXT ? "path" : "load";
            if (!tape.isWord(first)) {
                return tape.fail(CANT_STAND);
            }
            if (rows.count >= (k == LOADS_TEXT ? LOADS : LINES)) {
                return tape.fail(TOO_MANY);
            }
            tape.next();
            switch (k) {
                case HEEDS_TEXT: return readHeed(train);
                case PLANS_TEXT: return readPlan(train);
                case PATHS_TEXT: return readPath();
                default: return readLoad();
            }
        }

        private boolean readHeed(Train train) {
            int mule = tape.expectNumber(0, train.mules - 1, NONE);
            if (mule == NONE || !tape.expectWord("heeds")) {
                return false;
            }
            int set = 0;
            boolean goesOn = true;
            for (int i = 0; i <= TAPE_BYTES && goesOn; i++) {
                int heeded = tape.expectNumber(0, train.mules - 1, mule);
                if (heeded == NONE) {
                    return false;
                }
                set |= 1 << heeded;
                goesOn = tape.takeWord("and");
            }
            rows.add(mule, set, 0, 0);
            return true;
        }

        private boolean readPlan(Train train) {
            int day = tape.expectNumber(0, LAST_PLAN_DAY, NONE);
            if (day == NONE) {
                return false;
            }
            if (tape.takeWord("vote")) {
                rows.add(day, VOTED, 0, 0);
                return true;
            }
            int what = tape.isWord("salt") ? SALTED : tape.isWord("sing") ? SUNG
                    : tape.isWord("whip") ? WHIPPED : tape.isWord("go") ? GONE : NONE;
            if (what == NONE) {
                return tape.fail(CANT_STAND);
            }
            tape.next();
            int who = tape.expectNumber(0, what == GONE ? CAMPS - 1 : train.men - 1, NONE);
            if (who == NONE) {
                return false;
            }
            int mule = 0;
            if (what == SALTED || what == WHIPPED) {
                mule = tape.expectNumber(0, train.mules - 1, NONE);
            }
            rows.add(day, what, who, mule);
            return mule != NONE;
        }

        private boolean readPath() {
            int from = tape.expectNumber(0, CAMPS - 1, NONE);
            if (from == NONE) {
                return false;
            }
            int to = tape.expectNumber(0, CAMPS - 1, from);
            if (to == NONE || !tape.expectWord("hours")) {
                return false;
            }
            int hours = tape.expectNumber(1, MOST_HOURS, NONE);
            rows.add(from, to, hours, 0);
            return hours != NONE;
        }

        private boolean readLoad() {
            int load = tape.expectNumber(1, MOST_LOAD, NONE);
            if (load == NONE || !tape.expectWord("worth")) {
                return false;
            }
            int worth = tape.expectNumber(1, MOST_WORTH, NONE);
            rows.add(load, worth, 0, 0);
            return worth != NONE;
        }
    }

    /** All that THE IMAGE holds: the train, the TEXTS, what was SEEN and THE BOOK; and what is done to them. */
    private static final class World {
        static final int MULE = 0;
        static final int AGE = 1;
        static final int STRONG = 2;
        static final int LIKING = 3;
        static final int HEEDED = 4;
        static final int HAND = 5;
        static final int SONGS = 6;
        static final int SNOW = 7;
        static final int HOURS = 8;
        static final int DAY = 9;

        final Train train = new Train();
        final Law law = new Law();
        final Rows heeds = new Rows(LINES);
        final Rows plans = new Rows(LINES);
        final Rows paths = new Rows(LINES);
        final Rows loads = new Rows(LOADS);
        final Rows sights = new Rows(SIGHTS);
        private final int[] pages = new int[BOOK_LINES * BOOK_COLUMNS];
        private final int[] facts = new int[DAY + 1];

        void copyFrom(World other) {
            train.copyFrom(other.train);
            law.copyFrom(other.law);
            heeds.copyFrom(other.heeds);
            plans.copyFrom(other.plans);
            paths.copyFrom(other.paths);
            loads.copyFrom(other.loads);
            sights.copyFrom(other.sights);
            copyRow(other.pages, pages);
        }

        private void factsOf(int mule, int man) {
            boolean known = train.hasMule(mule);
            facts[MULE] = mule;
            facts[AGE] = known ? train.age[mule] : 0;
            facts[STRONG] = known ? train.strong[mule] : 0;
            facts[LIKING] = 0;
            facts[HEEDED] = 0;
            facts[HAND] = train.hasMan(man) ? train.hand[man] : 0;
            facts[SONGS] = train.hasMan(man) ? train.songs[man] : 0;
            facts[SNOW] = train.snow;
            facts[HOURS] = 0;
            facts[DAY] = train.day;
        }

        int leanOf(int mule, int man, int liking, int heeded) {
            factsOf(mule, man);
            facts[LIKING] = liking;
            facts[HEEDED] = heeded;
            int lean = law.tells(Law.LEAN, facts, liking + 10 * heeded);
            return Math.max(0, Math.min(MOST_LEAN, lean));
        }

        int leanNow(int mule, int man) {
            int heeded = Integer.bitCount(heededBy(mule) & train.behindOf(man));
            return leanOf(mule, man, train.likingFor(mule, man), heeded);
        }

        int needOf(int mule) {
            factsOf(mule, NONE);
            return Math.max(0, Math.min(MOST_LEAN, law.tells(Law.NEED, facts, 40)));
        }

        int riskOf(int mule, int hours, int man) {
            factsOf(mule, man);
            facts[HOURS] = hours;
            return Math.max(0, Math.min(SURE, law.tells(Law.RISK, facts, 20 * train.snow)));
        }

        int greatestRisk(int hours) {
            int greatest = 0;
            int lame = train.lameOnes();
            for (int m = 0; m < train.mules; m++) {
                if (!isIn(lame, m)) {
                    greatest = Math.max(greatest, riskOf(m, hours, train.driver));
                }
            }
            return greatest;
        }

        /** In a million, how likely just those go lame behind that man. */
        int likelihood(int lame, int hours, int man) {
            int likely = 1000000;
            for (int m = 0; m < train.mules; m++) {
                int risk = riskOf(m, hours, man);
                likely = likely * (isIn(lame, m) ? risk : SURE - risk) / SURE;
            }
            return likely;
        }

        int heededBy(int mule) {
            int set = 0;
            for (int i = 0; i < heeds.count; i++) {
                if (heeds.cell(i, 0) == mule) {
                    set |= heeds.cell(i, 1);
                }
            }
            return set;
        }

        int hoursBetween(int a, int b) {
            for (int i = 0; i < paths.count; i++) {
                if (paths.cell(i, 0) == a && paths.cell(i, 1) == b) {
                    return paths.cell(i, 2);
                }
            }
            return NONE;
        }

        /** Lines beyond the last one of THE BOOK are lost. */
        private void write(int what, int who, int which) {
            if (train.written >= 0 && train.written < BOOK_LINES) {
                int first = train.written * BOOK_COLUMNS;
                pages[first] = train.day;
                pages[first + 1] = what;
                pages[first + 2] = who;
                pages[first + 3] = which;
                train.written++;
            }
        }

        int read(int line, int column) {
            if (line < 0 || line >= BOOK_LINES || column < 0 || column >= BOOK_COLUMNS) {
                return NO_SUCH;
            }
            return pages[line * BOOK_COLUMNS + column];
        }

        void castVote(Ballot ballot) {
            ballot.standNow(this);
            for (int m = 0; m < train.mules && m < MULES; m++) {
                train.behind[m] = ballot.choiceOf(m);
            }
            train.driver = ballot.driver;
            if (train.driver == NONE) {
                train.ties++;
            }
            write(VOTED, train.driver, train.driver == NONE ? 0 : Integer.bitCount(train.behindOf(train.driver)));
        }

        boolean canTreat(int what, int man, int mule) {
            if (!train.hasMan(man)) {
                return false;
            }
            if (what == SUNG) {
                return true;
            }
            return train.hasMule(mule) && (what == WHIPPED || train.salt[man] > 0);
        }

        void treat(int what, int man, int mule) {
            if (what == SALTED) {
                giveSalt(man, mule);
            } else if (what == SUNG) {
                sing(man);
            } else {
                whip(man, mule);
            }
        }

        private void giveSalt(int man, int mule) {
            if (train.hasMan(man)) {
                train.salt[man]--;
                train.moveLiking(mule, man, SALT_LIKING);
                write(SALTED, man, mule);
            }
        }

        private void sing(int man) {
            int more = train.hasMan(man) ? train.songs[man] : 0;
            for (int m = 0; m < train.mules; m++) {
                train.moveLiking(m, man, more);
            }
            write(SUNG, man, 0);
        }

        private void whip(int man, int mule) {
            for (int other = 0; other < train.men; other++) {
                train.moveLiking(mule, other, other == man ? -WHIP_LIKING : OTHERS_LIKING);
            }
            write(WHIPPED, man, mule);
        }

        /** NONE if the train can't go there now. */
        int hoursOfGoing(int camp) {
            return train.driver == NONE ? NONE : hoursBetween(train.camp, camp);
        }

        /** How many went lame; in thought nothing is drawn, and so none does. */
        int travel(int camp, int hours, boolean draws) {
            int fallen = 0;
            train.hours += hours;
            write(GONE, camp, hours);
            for (int m = 0; m < train.mules && m < MULES && draws; m++) {
                int risk = train.lame[m] == 0 ? riskOf(m, hours, train.driver) : 0;
                if (risk > 0 && train.draw(SURE) < risk) {
                    train.lame[m] = 1;
                    fallen++;
                    write(LAMED, m, 0);
                }
            }
            train.camp = camp;
            return fallen;
        }

        int restAll() {
            int rested = Integer.bitCount(train.lameOnes());
            Arrays.fill(train.lame, 0);
            write(RESTED, NONE, 0);
            return rested;
        }

        /** How many lines of PLANS were done. */
        int passDay(Ballot ballot, boolean draws) {
            int done = 0;
            for (int i = 0; i < plans.count; i++) {
                if (plans.cell(i, 0) == train.day && doPlan(i, ballot, draws)) {
                    done++;
                }
            }
            for (int m = 0; m < train.mules && m < MULES; m++) {
                train.moveLiking(m, train.behind[m], -1);
            }
            train.day++;
            return done;
        }

        private boolean doPlan(int line, Ballot ballot, boolean draws) {
            int what = plans.cell(line, 1);
            int who = plans.cell(line, 2);
            if (what == VOTED) {
                castVote(ballot);
                return true;
            }
            if (what == GONE) {
                int hours = hoursOfGoing(who);
                if (hours != NONE) {
                    travel(who, hours, draws);
                }
                return hours != NONE;
            }
            int mule = plans.cell(line, 3);
            boolean can = canTreat(what, who, mule);
            if (can) {
                treat(what, who, mule);
            }
            return can;
        }
    }

    /** A VOTE in thought: what each mule leans is asked of THE LAW once, then they stand round by round. */
    private static final class Ballot {
        private final int[] needs = new int[MULES];
        private final int[] heeded = new int[MULES];
        private final int[] leans = new int[MULES * MEN * MULES];
        private final int[] salted = new int[MULES * MULES];
        private final int[] sides = new int[MEN];
        private int mules = 0;
        private int men = 0;
        int rounds = 0;
        int driver = NONE;

        void standNow(World world) {
            Train train = world.train;
            mules = Math.min(MULES, train.mules);
            men = Math.min(MEN, train.men);
            for (int m = 0; m < mules; m++) {
                needs[m] = world.needOf(m);
                heeded[m] = world.heededBy(m);
                int most = Integer.bitCount(heeded[m]);
                for (int man = 0; man < men; man++) {
                    int liking = train.likingFor(m, man);
                    for (int h = 0; h <= most && h < MULES; h++) {
                        leans[(m * MEN + man) * MULES + h] = world.leanOf(m, man, liking, h);
                    }
                }
            }
            settle(train.lameOnes(), 0, NONE);
        }

        /** Those (not LAME) whose standing his salt may move: the others are in no fewest set. */
        private int prepareSalted(World world, int man) {
            int moved = 0;
            for (int m = 0; m < mules && man >= 0 && man < MEN; m++) {
                int liking = Math.min(MOST_LIKING, world.train.likingFor(m, man) + SALT_LIKING);
                int most = Integer.bitCount(heeded[m]);
                boolean differs = false;
                int top = 0;
                for (int h = 0; h <= most && h < MULES; h++) {
                    int with = world.leanOf(m, man, liking, h);
                    int without = leans[(m * MEN + man) * MULES + h];
                    salted[m * MULES + h] = with;
                    differs = differs || with != without;
                    top = Math.max(top, Math.max(with, without));
                }
                if (differs && top >= needs[m] && !prefersAnother(m, man, top)) {
                    moved |= 1 << m;
                }
            }
            return moved & ~world.train.lameOnes();
        }

        /** Whether it takes another man, however they stand, as long as it leans no more to this one than that. */
        private boolean prefersAnother(int m, int man, int top) {
            for (int other = 0; other < men && other < MEN && m >= 0 && m < MULES; other++) {
                int most = Integer.bitCount(heeded[m]);
                int least = MOST_LEAN;
                for (int h = 0; h <= most && h < MULES; h++) {
                    least = Math.min(least, leans[(m * MEN + other) * MULES + h]);
                }
                if (other != man && (least > top || least == top && other < man)) {
                    return true;
                }
            }
            return false;
        }

        /** The mules of the set out do not stand; those of the set given have salt of the giver. */
        void settle(int out, int given, int giver) {
            Arrays.fill(sides, 0);
            int waiting = (1 << mules) - 1 & ~out;
            rounds = 0;
            int left = NONE;
            for (int round = 0; round <= MULES && left != waiting; round++) {
                left = waiting;
                for (int m = 0; m < mules; m++) {
                    int man = isIn(waiting, m) ? choose(m, isIn(given, m) ? giver : NONE) : NONE;
                    if (man >= 0 && man < MEN) {
                        sides[man] |= 1 << m;
                        waiting &= ~(1 << m);
                    }
                }
                if (left != waiting) {
                    rounds++;
                }
            }
            driver = leader();
        }

        private int choose(int m, int giver) {
            if (m < 0 || m >= MULES) {
                return NONE;
            }
            int best = NONE;
            int most = NONE;
            for (int man = 0; man < men && man < MEN; man++) {
                int stand = Integer.bitCount(heeded[m] & sides[man]);
                int lean = 0;
                if (stand < MULES) {
                    lean = man == giver ? salted[m * MULES + stand] : leans[(m * MEN + man) * MULES + stand];
                }
                if (lean > most) {
                    most = lean;
                    best = man;
                }
            }
            return most >= needs[m] ? best : NONE;
        }

        private int leader() {
            int best = NONE;
            int most = 0;
            for (int man = 0; man < men && man < MEN; man++) {
                int count = Integer.bitCount(sides[man]);
                if (count > most) {
                    most = count;
                    best = man;
                } else if (count == most) {
                    best = NONE;
                }
            }
            return best;
        }

        int choiceOf(int mule) {
            for (int man = 0; man < men && man < MEN; man++) {
                if (isIn(sides[man], mule)) {
                    return man;
                }
            }
            return NONE;
        }

        /** The set of the fewest mules whose salt makes him DRIVER, or NONE. */
        int fewestSalted(World world, int man) {
            standNow(world);
            int moved = prepareSalted(world, man);
            int lame = world.train.lameOnes();
            for (int count = 0; count <= Integer.bitCount(moved); count++) {
                for (int set = 0; set <= moved; set++) {
                    if ((set & ~moved) == 0 && Integer.bitCount(set) == count) {
                        settle(lame, set, man);
                        if (driver == man) {
                            return set;
                        }
                    }
                }
            }
            return NONE;
        }
    }

    /** The PATHS as a net of camps: the shortest way, the surest one, and where two trains meet. */
    private static final class Roads {
        private final int[] costs = new int[CAMPS * CAMPS];
        private final int[] far = new int[CAMPS];

        /** What each PATH costs: its hours, or the greatest risk on it. */
        void measure(World world, boolean byRisk) {
            Arrays.fill(costs, NONE);
            Rows paths = world.paths;
            for (int i = 0; i < paths.count; i++) {
                int from = paths.cell(i, 0);
                int to = paths.cell(i, 1);
                if (isCamp(from) && isCamp(to) && costs[from * CAMPS + to] == NONE) {
                    int hours = paths.cell(i, 2);
                    costs[from * CAMPS + to] = byRisk ? world.greatestRisk(hours) : hours;
                }
            }
        }

        /** How far each camp is from the goal. No way needs more paths than there are camps. */
        void reach(int goal) {
            Arrays.fill(far, NONE);
            if (!isCamp(goal)) {
                return;
            }
            far[goal] = 0;
            for (int round = 0; round < CAMPS; round++) {
                for (int from = 0; from < CAMPS; from++) {
                    for (int to = 0; to < CAMPS; to++) {
                        int through = through(from, to);
                        if (through != NONE && (far[from] == NONE || through < far[from])) {
                            far[from] = through;
                        }
                    }
                }
            }
        }

        private int through(int from, int to) {
            if (!isCamp(from) || !isCamp(to) || costs[from * CAMPS + to] == NONE || far[to] == NONE) {
                return NONE;
            }
            return costs[from * CAMPS + to] + far[to];
        }

        int farFrom(int camp) {
            return isCamp(camp) ? far[camp] : NONE;
        }

        int nextFrom(int camp, int goal) {
            if (camp == goal || farFrom(camp) == NONE) {
                return NONE;
            }
            for (int next = 0; next < CAMPS; next++) {
                if (through(camp, next) == farFrom(camp)) {
                    return next;
                }
            }
            return NONE;
        }

        int meeting(World world, int a, int b) {
            Rows paths = world.paths;
            int campA = a;
            int campB = b;
            int hoursA = 0;
            int hoursB = 0;
            for (int hour = 0; hour <= MEETING_HOURS; hour++) {
                if (hoursA == 0 && hoursB == 0 && campA == campB) {
                    return hour;
                }
                int lineA = hoursA == 0 ? firstLineFrom(paths, campA) : NONE;
                if (lineA != NONE) {
                    campA = paths.cell(lineA, 1);
                    hoursA = paths.cell(lineA, 2);
                }
                int lineB = hoursB == 0 ? firstLineFrom(paths, campB) : NONE;
                if (lineB != NONE) {
                    campB = paths.cell(lineB, 1);
                    hoursB = paths.cell(lineB, 2);
                }
                hoursA = Math.max(0, hoursA - 1);
                hoursB = Math.max(0, hoursB - 1);
            }
            return NONE;
        }

        private static int firstLineFrom(Rows paths, int camp) {
            for (int i = 0; i < paths.count; i++) {
                if (paths.cell(i, 0) == camp) {
                    return i;
                }
            }
            return NONE;
        }
    }

    /** What is asked of loads, rows, thresholds, games and shares. */
    private static final class Riddles {
        private static final int LOAD_SETS = 1 << LOADS;
        private static final int MULE_SETS = 1 << MULES;

        private final int[] weights = new int[LOAD_SETS];
        private final int[] able = new int[LOAD_SETS];
        private final int[] ends = new int[MULE_SETS];
        private final int[] fitting = new int[MOST_LIKING + 1];
        private final int[] grundy = new int[MOST_SALT + 1];
        private final int[] heeders = new int[MULES];

        /** The set of LOADS that are worth most of those that can be carried. */
        int bestPack(World world) {
            Train train = world.train;
            int sets = 1 << Math.min(LOADS, world.loads.count);
            weigh(world.loads, sets);
            int lame = train.lameOnes();
            for (int m = 0; m < train.mules && m < MULES; m++) {
                // From the greatest set down: the smaller ones do not know of this mule yet.
                for (int set = sets - 1; set > 0 && !isIn(lame, m); set--) {
                    if (able[set] == 0 && canAdd(set, train.strong[m])) {
                        able[set] = 1;
                    }
                }
            }
            int best = 0;
            for (int set = 0; set < sets && set < LOAD_SETS; set++) {
                if (able[set] != 0 && worthOf(world, set) > worthOf(world, best)) {
                    best = set;
                }
            }
            return best;
        }

        private void weigh(Rows loads, int sets) {
            for (int set = 0; set < sets && set < LOAD_SETS; set++) {
                weights[set] = 0;
                for (int i = 0; i < loads.count; i++) {
                    weights[set] += isIn(set, i) ? loads.cell(i, 0) : 0;
                }
                able[set] = set == 0 ? 1 : 0;
            }
        }

        private boolean canAdd(int set, int strong) {
            for (int part = set; part > 0 && part < LOAD_SETS; part = part - 1 & set) {
                if (weights[part] <= strong && able[set & ~part] != 0) {
                    return true;
                }
            }
            return false;
        }

        int worthOf(World world, int set) {
            int worth = 0;
            for (int i = 0; i < world.loads.count; i++) {
                worth += isIn(set, i) ? world.loads.cell(i, 1) : 0;
            }
            return worth;
        }

        /** Of each set of mules it is told at which of them a row over just these can end. */
        int longestRow(World world) {
            int mules = Math.min(MULES, world.train.mules);
            for (int m = 0; m < mules; m++) {
                heeders[m] = world.heededBy(m);
            }
            int sets = 1 << mules;
            Arrays.fill(ends, 0);
            for (int m = 0; m < mules; m++) {
                ends[1 << m] = 1 << m;
            }
            int longest = 0;
            for (int set = 1; set < sets && set < MULE_SETS; set++) {
                if (ends[set] != 0) {
                    longest = Math.max(longest, Integer.bitCount(set));
                    goOn(set, mules);
                }
            }
            return longest;
        }

        private void goOn(int set, int mules) {
            if (set < 0 || set >= MULE_SETS) {
                return;
            }
            int nexts = 0;
            for (int m = 0; m < mules && m < MULES; m++) {
                nexts |= isIn(ends[set], m) ? heeders[m] : 0;
            }
            nexts &= ~set;
            for (int m = 0; m < mules && m < MULES; m++) {
                if (isIn(nexts, m)) {
                    ends[set | 1 << m] |= 1 << m;
                }
            }
        }

        int countFits(World world) {
            int count = 0;
            for (int k = 0; k <= MOST_LIKING; k++) {
                fitting[k] = isFit(world, k) ? 1 : 0;
                count += fitting[k];
            }
            return count;
        }

        private static boolean isFit(World world, int k) {
            Rows sights = world.sights;
            for (int i = 0; i < sights.count; i++) {
                int liking = world.train.likingFor(sights.cell(i, 0), sights.cell(i, 1));
                if (liking >= k != (sights.cell(i, 2) != 0)) {
                    return false;
                }
            }
            return true;
        }

        int leastFit(World world) {
            countFits(world);
            for (int k = 0; k <= MOST_LIKING; k++) {
                if (fitting[k] != 0) {
                    return k;
                }
            }
            return NONE;
        }

        /** The MULE, or the MAN, of the LIKING that parts the thresholds best. */
        int bestAsk(World world, boolean wantsMule) {
            Train train = world.train;
            int count = countFits(world);
            int best = NONE;
            int least = count + 1;
            for (int m = 0; m < train.mules && count >= 2; m++) {
                for (int man = 0; man < train.men; man++) {
                    int below = fitsUpTo(train.likingFor(m, man));
                    int greater = Math.max(below, count - below);
                    if (greater < least) {
                        least = greater;
                        best = wantsMule ? m : man;
                    }
                }
            }
            return best;
        }

        private int fitsUpTo(int most) {
            int count = 0;
            for (int k = 0; k <= most && k <= MOST_LIKING; k++) {
                count += fitting[k];
            }
            return count;
        }

        /** The MAN, or how many are left, of the first taking that leaves nothing to win for the other one. */
        int bestTaking(Train train, boolean wantsMan) {
            fillGrundy();
            int all = 0;
            for (int man = 0; man < train.men; man++) {
                all ^= grundyOf(saltOf(train, man));
            }
            for (int man = 0; man < train.men; man++) {
                int has = saltOf(train, man);
                int others = all ^ grundyOf(has);
                if (has > 0 && grundyOf(has / 2) == others) {
                    return wantsMan ? man : has / 2;
                }
                if (has > 0 && grundyOf(has - 1) == others) {
                    return wantsMan ? man : has - 1;
                }
            }
            return NONE;
        }

        private static int saltOf(Train train, int man) {
            return train.hasMan(man) ? train.salt[man] : 0;
        }

        private int grundyOf(int has) {
            return has >= 0 && has < grundy.length ? grundy[has] : 0;
        }

        /** Half upwards taken leaves half downwards. */
        private void fillGrundy() {
            grundy[0] = 0;
            for (int has = 1; has < grundy.length; has++) {
                int a = grundyOf(has - 1);
                int b = grundyOf(has / 2);
                int least = 0;
                while (least < 2 && (least == a || least == b)) {
                    least++;
                }
                grundy[has] = least;
            }
        }

        int shareOf(World world, int sum, int mule) {
            Train train = world.train;
            int heedings = 0;
            for (int m = 0; m < train.mules && m < MULES; m++) {
                heeders[m] = countHeeders(world, m);
                heedings += heeders[m];
            }
            if (heedings <= 0 || !train.hasMule(mule) || heeders[mule] == 0) {
                return 0;
            }
            int left = sum;
            int rank = 0;
            for (int m = 0; m < train.mules && m < MULES; m++) {
                left -= sum * heeders[m] / heedings;
                rank += m < mule && heeders[m] > 0 ? 1 : 0;
            }
            return sum * heeders[mule] / heedings + (rank < left ? 1 : 0);
        }

        private static int countHeeders(World world, int mule) {
            int count = 0;
            for (int m = 0; m < world.train.mules; m++) {
                count += isIn(world.heededBy(m), mule) ? 1 : 0;
            }
            return count;
        }
    }

    /** The trains as they were before the latest things done, the oldest first. */
    private static final class History {
        private final Train[] kept = new Train[KEPT];
        int count = 0;

        History() {
            for (int i = 0; i < KEPT; i++) {
                kept[i] = new Train();
            }
        }

        void forget() {
            count = 0;
        }

        void keep(Train now) {
            if (count >= KEPT) {
                dropOldest();
            }
            Train free = count >= 0 && count < KEPT ? kept[count] : null;
            if (free != null) {
                free.copyFrom(now);
                count++;
            }
        }

        private void dropOldest() {
            Train oldest = kept[0];
            for (int i = 1; i < KEPT; i++) {
                kept[i - 1] = kept[i];
            }
            kept[KEPT - 1] = oldest;
            count = KEPT - 1;
        }

        boolean giveBack(Train now) {
            Train latest = count > 0 && count <= KEPT ? kept[count - 1] : null;
            if (latest == null) {
                return false;
            }
            now.copyFrom(latest);
            count--;
            return true;
        }
    }
}
