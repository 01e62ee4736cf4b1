/** Plans that are kept for a question though its numbers change. */
public final class KeptPlans {
    public static final int UNKNOWN = -1;
    public static final int BAD_VALUE = -2;
    public static final int FULL = -3;
    public static final int NONE = -4;

    private static final int TABLES = 4;
    private static final int KINDS = 3;
    private static final int SHAPES = 12;
    private static final int WAYS = 3;

    private static final int ONE_KEY = 0;
    private static final int SPAN_OF_KEYS = 1;
    private static final int GREATEST_ONES = 2;
    // In a text these two stand where a kind of question may stand.
    private static final int SET_ROWS = 3;
    private static final int SET_KEYS = 4;

    private static final int LIST = 0;
    private static final int ORDER = 1;

    private static final int LOOKING = 0;
    private static final int SPREAD = 1;
    private static final int MOST_AGE = 2;
    private static final int ROOM = 3;
    private static final int PATIENCE = 4;
    private static final int SETTINGS = 5;
    private static final int[] LEAST_SETTING = {0, 1, 1, 1, 1};
    private static final int[] MOST_SETTING = {999, 20, 999, 12, 20};

    private static final int USED = 0;
    private static final int NO_PLAN = 1;
    private static final int BELOW_BOUNDS = 2;
    private static final int ABOVE_BOUNDS = 3;
    private static final int ROWS_CHANGED = 4;
    private static final int TOO_OLD = 5;

    private static final int MOST_NUMBER = 9999;
    private static final int MOST_BOUND = 99999;
    private static final int MOST_COST = 1000000;
    private static final int REACH_END = 200;
    private static final int LONGEST_TEXT = 80;
    private static final int MOST_STATES = 4;
    private static final int FAULT_BASE = -100;
    private static final int NOT_READ = -1;

    private final State now = new State();
    private final State snapshot = new State();
    private final History history = new History();
    private final QuestionText text = new QuestionText();
    private boolean hasSnapshot;

    public KeptPlans() {
        hasSnapshot = false;
    }

    // ---- tables, questions

    public int table(int table, boolean keys, int many) {
        if (!isTable(table)) {
            return UNKNOWN;
        }
        if (many < (keys ? 1 : 0) || many > MOST_NUMBER) {
            return BAD_VALUE;
        }
        int before = keys ? now.tables[table].keys : now.tables[table].rows;
        if (before == many) {
            return NONE;
        }
        history.record(now);
        now.resize(table, keys, many);
        return before;
    }

    public int ask(int shape, int number) {
        if (!isShape(shape)) {
            return UNKNOWN;
        }
        if (!isNumberOf(shape % KINDS, number)) {
            return BAD_VALUE;
        }
        history.record(now);
        return now.answer(shape, number);
    }

    public int askAll() {
        int fault = text.read();
        if (fault != NONE) {
            return FAULT_BASE - fault;
        }
        history.record(now);
        int price = 0;
        for (int i = 0; i < text.lines; i++) {
            int word = text.words[i];
            if (word == SET_ROWS || word == SET_KEYS) {
                now.resize(text.tables[i], word == SET_KEYS, text.numbers[i]);
            } else {
                price += now.answer(KINDS * text.tables[i] + word, text.numbers[i]);
            }
        }
        return price;
    }

    // ---- plans, settings

    public int pin(int shape, boolean pin) {
        if (!hasPlan(shape)) {
            return UNKNOWN;
        }
        if (now.plans[shape].pinned == pin) {
            return NONE;
        }
        history.record(now);
        now.plans[shape].pinned = pin;
        return now.pinnedPlans();
    }

    public int throwOut(int shape) {
        if (!hasPlan(shape)) {
            return UNKNOWN;
        }
        history.record(now);
        now.plans[shape].kept = false;
        return now.keptPlans();
    }

    public int make(int shape, int way, int number, int least, int most) {
        if (!isShape(shape)) {
            return UNKNOWN;
        }
        if (!isWay(way) || !isNumberOf(shape % KINDS, number)) {
            return BAD_VALUE;
        }
        if (least < 0 || least > MOST_NUMBER || most < least || most > MOST_BOUND) {
            return BAD_VALUE;
        }
        if (!now.couldKeep(shape)) {
            return NONE;
        }
        history.record(now);
        now.makeRoomFor(shape);
        now.place(shape, way, number, least, most);
        return now.keptPlans();
    }

    public int set(int which, int value) {
        if (which < 0 || which >= SETTINGS) {
            return UNKNOWN;
        }
        if (value < LEAST_SETTING[which] || value > MOST_SETTING[which]) {
            return BAD_VALUE;
        }
        int before = now.settings[which];
        if (before == value) {
            return NONE;
        }
        history.record(now);
        now.settings[which] = value;
        if (which == ROOM) {
            now.crowdOutDownTo(value);
        }
        return before;
    }

    // ---- texts

    public int type(char character) {
        if (text.length >= LONGEST_TEXT) {
            return FULL;
        }
        text.signs[text.length] = character;
        text.length++;
        return text.length;
    }

    public int clearText() {
        int before = text.length;
        text.length = 0;
        return before;
    }

    // ---- history

    public int undo() {
        if (history.size == 0) {
            return NONE;
        }
        history.takeBack(now);
        return history.size;
    }

    public int keep() {
        snapshot.copyFrom(now);
        hasSnapshot = true;
        return now.keptPlans();
    }

    public int restore() {
        if (!hasSnapshot) {
            return NONE;
        }
        history.record(now);
        now.copyFrom(snapshot);
        return now.keptPlans();
    }

    // ---- what is told

    public int cost(int shape, int way, int number) {
        if (!isShape(shape)) {
            return UNKNOWN;
        }
        if (!isWay(way) || !isNumberOf(shape % KINDS, number)) {
            return BAD_VALUE;
        }
        return now.priceBy(shape, way, number);
    }

    public int cheapest(int shape, int number) {
        if (!isShape(shape)) {
            return UNKNOWN;
        }
        if (!isNumberOf(shape % KINDS, number)) {
            return BAD_VALUE;
        }
        return now.cheapestWay(shape, number);
    }

    public int plan(int shape, int what) {
        if (!hasPlan(shape)) {
            return UNKNOWN;
        }
        Plan plan = now.plans[shape];
        switch (what) {
            case 0: return plan.way;
            case 1: return plan.least;
            case 2: return plan.most;
            case 3: return plan.number;
            case 4: return plan.guess;
            case 5: return now.questions - plan.madeAt;
            case 6: return now.isStale(shape) ? 1 : 0;
            case 7: return plan.pinned ? 1 : 0;
            case 8: return plan.uses;
            case 9: return now.questions - plan.usedAt;
            case 10: return plan.rows;
            default: return BAD_VALUE;
        }
    }

    public int reason(int shape, int number) {
        if (!isShape(shape)) {
            return UNKNOWN;
        }
        if (!isNumberOf(shape % KINDS, number)) {
            return BAD_VALUE;
        }
        return now.whyNotUsed(shape, number);
    }

    public int ifAsked(int shape, int number, int what) {
        if (!isShape(shape)) {
            return UNKNOWN;
        }
        if (!isNumberOf(shape % KINDS, number) || what < 0 || what > 4) {
            return BAD_VALUE;
        }
        boolean hit = now.whyNotUsed(shape, number) == USED;
        int best = now.cheapestWay(shape, number);
        int way = hit ? now.plans[shape].way : best;
        int price = now.priceBy(shape, way, number);
        int looking = hit ? 0 : now.settings[LOOKING];
        switch (what) {
            case 0: return price + looking;
            case 1: return way;
            case 2: return hit && now.isTooDear(shape, price) ? 1 : 0;
            case 3: return hit ? NONE : now.firstCrowdedOutBy(shape);
            default: return price + looking - now.priceBy(shape, best, number);
        }
    }

    public int reach(int shape, int way) {
        if (!isShape(shape)) {
            return UNKNOWN;
        }
        if (!isWay(way)) {
            return BAD_VALUE;
        }
        int found = 0;
        for (int number = leastNumberOf(shape % KINDS); number <= REACH_END; number++) {
            if (now.cheapestWay(shape, number) == way) {
                found++;
            }
        }
        return found;
    }

    public int oldest() {
        return now.oldestUnpinned();
    }

    public int tableOf(int table, int what) {
        if (!isTable(table)) {
            return UNKNOWN;
        }
        Table asked = now.tables[table];
        switch (what) {
            case 0: return asked.rows;
            case 1: return asked.keys;
            case 2: return now.keptPlansOf(table);
            case 3: return asked.questions;
            case 4: return asked.spent;
            default: return BAD_VALUE;
        }
    }

    public int count(int what) {
        switch (what) {
            case 0: return now.keptPlans();
            case 1: return now.pinnedPlans();
            case 2: return now.stalePlans();
            case 3: return now.questions;
            case 4: return now.hits;
            case 5: return now.misses;
            case 6: return now.spent;
            case 7: return now.spentLooking;
            case 8: return now.turnedBad;
            case 9: return now.crowdedOut;
            case 10: return now.settings[LOOKING];
            case 11: return now.settings[SPREAD];
            case 12: return now.settings[MOST_AGE];
            case 13: return now.settings[ROOM];
            case 14: return now.settings[PATIENCE];
            case 15: return history.size;
            case 16: return text.length;
            default: return BAD_VALUE;
        }
    }

    // ---- what arguments may be

    private static boolean isTable(int table) {
        return table >= 0 && table < TABLES;
    }

    private static boolean isShape(int shape) {
        return shape >= 0 && shape < SHAPES;
    }

    private static boolean isWay(int way) {
        return way >= 0 && way < WAYS;
    }

    private boolean hasPlan(int shape) {
        return isShape(shape) && now.plans[shape].kept;
    }

    private static int leastNumberOf(int kind) {
        return kind == ONE_KEY ? 0 : 1;
    }

    private static boolean isNumberOf(int kind, int number) {
        return number >= leastNumberOf(kind) && number <= MOST_NUMBER;
    }

    private static int bitsOf(int number) {
        int bits = 0;
        while (bits < 31 && (number >> bits) > 0) {
            bits++;
        }
        return bits;
    }

    // Divisors are never below 1 here; the test keeps that so where it is needed.
    private static int quotient(int dividend, int divisor) {
        return divisor < 1 ? 0 : dividend / divisor;
    }

    private static final class Table {
        int rows;
        int keys;
        int questions;
        int spent;

        Table() {
            rows = 100;
            keys = 10;
        }

        void copyFrom(Table other) {
            rows = other.rows;
            keys = other.keys;
            questions = other.questions;
            spent = other.spent;
        }
    }

    // A plan of a shape has its place from the start, so that no call makes objects.
    private static final class Plan {
        boolean kept;
        boolean pinned;
        int way;
        int least;
        int most;
        int number;
        int guess;
        int rows;
        int uses;
        int madeAt;
        int usedAt;

        void copyFrom(Plan other) {
            kept = other.kept;
            pinned = other.pinned;
            way = other.way;
            least = other.least;
            most = other.most;
            number = other.number;
            guess = other.guess;
            rows = other.rows;
            uses = other.uses;
            madeAt = other.madeAt;
            usedAt = other.usedAt;
        }
    }

    private static final class State {
        final Table[] tables = new Table[TABLES];
        final Plan[] plans = new Plan[SHAPES];
        final int[] settings = {50, 2, 20, 6, 4};
        int questions;
        int hits;
        int misses;
        int spent;
        int spentLooking;
        int turnedBad;
        int crowdedOut;

        State() {
            for (int i = 0; i < TABLES; i++) {
                tables[i] = new Table();
            }
            for (int i = 0; i < SHAPES; i++) {
                plans[i] = new Plan();
            }
        }

        void copyFrom(State other) {
            for (int i = 0; i < TABLES; i++) {
                tables[i].copyFrom(other.tables[i]);
            }
            for (int i = 0; i < SHAPES; i++) {
                plans[i].copyFrom(other.plans[i]);
            }
            for (int i = 0; i < SETTINGS; i++) {
                settings[i] = other.settings[i];
            }
            questions = other.questions;
            hits = other.hits;
            misses = other.misses;
            spent = other.spent;
            spentLooking = other.spentLooking;
            turnedBad = other.turnedBad;
            crowdedOut = other.crowdedOut;
        }

        void resize(int table, boolean keys, int many) {
            if (keys) {
                tables[table].keys = many;
            } else {
                tables[table].rows = many;
            }
        }

        Table tableUnder(int shape) {
            return tables[shape / KINDS];
        }

        int priceBy(int shape, int way, int number) {
            int kind = shape % KINDS;
            int rows = tableUnder(shape).rows;
            int price;
            if (way == LIST) {
                price = kind == GREATEST_ONES ? rows + number * bitsOf(number) : rows;
            } else if (way == ORDER) {
                price = bitsOf(rows) + rowsMet(shape, number) * (kind == GREATEST_ONES ? 1 : 3);
            } else {
                price = kind == GREATEST_ONES ? rows + number * bitsOf(rows) : 2 * rows;
            }
            return Math.min(price, MOST_COST);
        }

        int rowsMet(int shape, int number) {
            if (shape % KINDS != SPAN_OF_KEYS) {
                return number;
            }
            Table table = tableUnder(shape);
            int roundedUp = quotient(table.rows * number + table.keys - 1, table.keys);
            return Math.min(roundedUp, table.rows);
        }

        int cheapestWay(int shape, int number) {
            int best = 0;
            int bestPrice = priceBy(shape, 0, number);
            for (int way = 1; way < WAYS; way++) {
                int price = priceBy(shape, way, number);
                if (price < bestPrice) {
                    best = way;
                    bestPrice = price;
                }
            }
            return best;
        }

        boolean rowsChangedTooMuch(int shape) {
            int made = plans[shape].rows;
            return Math.abs(tableUnder(shape).rows - made) > made / 2;
        }

        boolean isTooOld(int shape) {
            return questions - plans[shape].madeAt > settings[MOST_AGE];
        }

        boolean isStale(int shape) {
            return rowsChangedTooMuch(shape) || isTooOld(shape);
        }

        boolean isTooDear(int shape, int price) {
            return price > settings[PATIENCE] * plans[shape].guess;
        }

        int whyNotUsed(int shape, int number) {
            Plan plan = plans[shape];
            if (!plan.kept) {
                return NO_PLAN;
            }
            if (number < plan.least) {
                return BELOW_BOUNDS;
            }
            if (number > plan.most) {
                return ABOVE_BOUNDS;
            }
            if (rowsChangedTooMuch(shape)) {
                return ROWS_CHANGED;
            }
            return isTooOld(shape) ? TOO_OLD : USED;
        }

        int answer(int shape, int number) {
            boolean hit = whyNotUsed(shape, number) == USED;
            // Counted here, as a plan's age leaves out the question that is asked now.
            questions++;
            int price = hit ? answerByPlan(shape, number) : answerByLooking(shape, number);
            spent += price;
            Table table = tableUnder(shape);
            table.questions++;
            table.spent += price;
            return price;
        }

        int answerByPlan(int shape, int number) {
            Plan plan = plans[shape];
            int price = priceBy(shape, plan.way, number);
            hits++;
            plan.uses++;
            plan.usedAt = questions;
            if (isTooDear(shape, price)) {
                plan.kept = false;
                turnedBad++;
            }
            return price;
        }

        int answerByLooking(int shape, int number) {
            int way = cheapestWay(shape, number);
            misses++;
            spentLooking += settings[LOOKING];
            makeRoomFor(shape);
            if (couldKeep(shape)) {
                int spread = settings[SPREAD];
                place(shape, way, number, quotient(number, spread), number * spread);
            }
            return priceBy(shape, way, number) + settings[LOOKING];
        }

        void place(int shape, int way, int number, int least, int most) {
            Plan plan = plans[shape];
            plan.kept = true;
            plan.pinned = false;
            plan.way = way;
            plan.least = least;
            plan.most = most;
            plan.number = number;
            plan.guess = priceBy(shape, way, number);
            plan.rows = tableUnder(shape).rows;
            plan.uses = 0;
            plan.madeAt = questions;
            plan.usedAt = questions;
        }

        // Pinned plans alone can keep a new one out: all others would give way to it.
        boolean couldKeep(int shape) {
            return plans[shape].kept || pinnedPlans() < settings[ROOM];
        }

        boolean lacksRoomFor(int shape) {
            return !plans[shape].kept && keptPlans() >= settings[ROOM];
        }

        int firstCrowdedOutBy(int shape) {
            return lacksRoomFor(shape) ? oldestUnpinned() : NONE;
        }

        void makeRoomFor(int shape) {
            if (lacksRoomFor(shape)) {
                crowdOutDownTo(settings[ROOM] - 1);
            }
        }

        void crowdOutDownTo(int most) {
            int tooMany = keptPlans() - most;
            for (int i = 0; i < tooMany; i++) {
                int shape = oldestUnpinned();
                if (shape < 0) {
                    return;
                }
                plans[shape].kept = false;
                crowdedOut++;
            }
        }

        int oldestUnpinned() {
            int found = NONE;
            int longestAgo = 0;
            for (int i = 0; i < SHAPES; i++) {
                Plan plan = plans[i];
                boolean older = found == NONE || plan.usedAt < longestAgo;
                if (plan.kept && !plan.pinned && older) {
                    found = i;
                    longestAgo = plan.usedAt;
                }
            }
            return found;
        }

        int keptPlansOf(int table) {
            int found = 0;
            for (int kind = 0; kind < KINDS; kind++) {
                if (plans[KINDS * table + kind].kept) {
                    found++;
                }
            }
            return found;
        }

        int keptPlans() {
            int found = 0;
            for (int i = 0; i < SHAPES; i++) {
                if (plans[i].kept) {
                    found++;
                }
            }
            return found;
        }

        int pinnedPlans() {
            int found = 0;
            for (int i = 0; i < SHAPES; i++) {
                if (plans[i].kept && plans[i].pinned) {
                    found++;
                }
            }
            return found;
        }

        int stalePlans() {
            int found = 0;
            for (int i = 0; i < SHAPES; i++) {
                if (plans[i].kept && isStale(i)) {
                    found++;
                }
            }
            return found;
        }
    }

    // A ring: when it is full, the next state is written over the oldest one.
    private static final class History {
        final State[] states = new State[MOST_STATES];
        int next;
        int size;

        History() {
            for (int i = 0; i < MOST_STATES; i++) {
                states[i] = new State();
            }
        }

        void record(State state) {
            states[next].copyFrom(state);
            next = (next + 1) % MOST_STATES;
            size = Math.min(size + 1, MOST_STATES);
        }

        void takeBack(State state) {
            next = (next + MOST_STATES - 1) % MOST_STATES;
            size--;
            state.copyFrom(states[next]);
        }
    }

    private static final class QuestionText {
        // The shortest line has 7 characters, so a text has at most 10 lines
        // with ";" between two, and the start of one more.
        static final int MOST_LINES = 11;

        final char[] signs = new char[LONGEST_TEXT];
        int length;
        final int[] words = new int[MOST_LINES];
        final int[] tables = new int[MOST_LINES];
        final int[] numbers = new int[MOST_LINES];
        int lines;
        int at;

        // Answers where the fault is, or NONE; wherever reading stops is the fault's place.
        int read() {
            at = 0;
            lines = 0;
            while (lines < MOST_LINES) {
                if (!readLine(lines)) {
                    return at;
                }
                lines++;
                if (at >= length) {
                    return NONE;
                }
                if (!pass(";")) {
                    return at;
                }
            }
            return at;
        }

        boolean readLine(int line) {
            int word = readWord();
            if (word == NOT_READ) {
                return false;
            }
            int table = readNumber(0, TABLES - 1);
            if (table == NOT_READ) {
                return false;
            }
            int number = readNumber(word == ONE_KEY || word == SET_ROWS ? 0 : 1, MOST_NUMBER);
            if (number == NOT_READ) {
                return false;
            }
            words[line] = word;
            tables[line] = table;
            numbers[line] = number;
            return true;
        }

        int readWord() {
            switch (sign()) {
                case 'k': return readKeyOrKeys();
                case 's': return pass("span") ? SPAN_OF_KEYS : NOT_READ;
                case 't': return pass("top") ? GREATEST_ONES : NOT_READ;
                case 'r': return pass("rows") ? SET_ROWS : NOT_READ;
                default: return NOT_READ;
            }
        }

        int readKeyOrKeys() {
            if (!pass("key")) {
                return NOT_READ;
            }
            return pass("s") ? SET_KEYS : ONE_KEY;
        }

        int readNumber(int least, int most) {
            if (!pass(" ")) {
                return NOT_READ;
            }
            int value = digit();
            if (value < least || value > most) {
                return NOT_READ;
            }
            at++;
            // A digit that is not allowed here is left for the next step, which refuses it.
            while (at < length && value > 0) {
                int longer = 10 * value + digit();
                if (digit() < 0 || longer > most) {
                    return value;
                }
                value = longer;
                at++;
            }
            return value;
        }

        boolean pass(String expected) {
            for (int i = 0; i < expected.length(); i++) {
                if (sign() != expected.charAt(i)) {
                    return false;
                }
                at++;
            }
            return true;
        }

        int sign() {
            return at >= 0 && at < length && at < LONGEST_TEXT ? signs[at] : NOT_READ;
        }

        int digit() {
            int sign = sign();
            return sign >= '0' && sign <= '9' ? sign - '0' : NOT_READ;
        }
    }
}
