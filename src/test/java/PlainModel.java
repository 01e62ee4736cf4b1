import java.util.ArrayDeque;
import java.util.ArrayList;
import java.util.Deque;
import java.util.List;
import java.util.TreeMap;
import java.util.regex.Matcher;
import java.util.regex.Pattern;

/**
 * The document once more, in another way: states that never change, a text read by a pattern,
 * accounts that are added up from the list of all questions, and trials on a copy.
 */
final class PlainModel {
    private static final String NUMBER = "(?:0|[1-9][0-9]{0,3})";
    private static final String LINE = "(?:key [0-3] " + NUMBER + "|rows [0-3] " + NUMBER
        + "|span [0-3] [1-9][0-9]{0,3}|top [0-3] [1-9][0-9]{0,3}|keys [0-3] [1-9][0-9]{0,3})";
    private static final Pattern TEXT = Pattern.compile(LINE + "(?:;" + LINE + ")*");

    private record Kept(int way, int least, int most, int number, int guess, int rows,
                        int madeAt, int usedAt, int uses, boolean pinned) {
        Kept pinned(boolean pin) {
            return new Kept(way, least, most, number, guess, rows, madeAt, usedAt, uses, pin);
        }

        Kept used(int at) {
            return new Kept(way, least, most, number, guess, rows, madeAt, at, uses + 1, pinned);
        }
    }

    private record Asked(int table, int cost, boolean hit, int looking) {
    }

    private static final class World {
        int[] rows = {100, 100, 100, 100};
        int[] keys = {10, 10, 10, 10};
        int[] settings = {50, 2, 20, 6, 4};
        TreeMap<Integer, Kept> plans = new TreeMap<>();
        List<Asked> asked = new ArrayList<>();
        int bad;
        int crowded;

        World copy() {
            World other = new World();
            other.rows = rows.clone();
            other.keys = keys.clone();
            other.settings = settings.clone();
            other.plans = new TreeMap<>(plans);
            other.asked = new ArrayList<>(asked);
            other.bad = bad;
            other.crowded = crowded;
            return other;
        }
    }

    private World world = new World();
    private World snapshot = null;
    private final Deque<World> history = new ArrayDeque<>();
    private String text = "";

    private void record() {
        history.addLast(world.copy());
        if (history.size() > 4) {
            history.removeFirst();
        }
    }

    private static boolean in(int value, int least, int most) {
        return least <= value && value <= most;
    }

    private static boolean number(int shape, int number) {
        return in(number, shape % 3 == 0 ? 0 : 1, 9999);
    }

    int table(int table, boolean keys, int many) {
        if (!in(table, 0, 3)) return -1;
        if (!in(many, keys ? 1 : 0, 9999)) return -2;
        int was = (keys ? world.keys : world.rows)[table];
        if (was == many) return -4;
        record();
        (keys ? world.keys : world.rows)[table] = many;
        return was;
    }

    int ask(int shape, int number) {
        if (!in(shape, 0, 11)) return -1;
        if (!number(shape, number)) return -2;
        record();
        return asking(world, shape, number);
    }

    int askAll() {
        Matcher whole = TEXT.matcher(text);
        if (!whole.matches()) {
            return -100 - fault();
        }
        record();
        int sum = 0;
        for (String line : text.split(";")) {
            String[] parts = line.split(" ");
            int table = Integer.parseInt(parts[1]);
            int number = Integer.parseInt(parts[2]);
            switch (parts[0]) {
                case "key" -> sum += asking(world, 3 * table, number);
                case "span" -> sum += asking(world, 3 * table + 1, number);
                case "top" -> sum += asking(world, 3 * table + 2, number);
                case "rows" -> world.rows[table] = number;
                default -> world.keys[table] = number;
            }
        }
        return sum;
    }

    private int fault() {
        for (int length = 1; length <= text.length(); length++) {
            Matcher start = TEXT.matcher(text.substring(0, length));
            if (!start.matches() && !start.hitEnd()) {
                return length - 1;
            }
        }
        return text.length();
    }

    int pin(int shape, boolean pin) {
        if (!world.plans.containsKey(shape)) return -1;
        if (world.plans.get(shape).pinned() == pin) return -4;
        record();
        world.plans.put(shape, world.plans.get(shape).pinned(pin));
        return count(1);
    }

    int throwOut(int shape) {
        if (!world.plans.containsKey(shape)) return -1;
        record();
        world.plans.remove(shape);
        return world.plans.size();
    }

    int make(int shape, int way, int number, int least, int most) {
        if (!in(shape, 0, 11)) return -1;
        if (!in(way, 0, 2) || !number(shape, number) || !in(least, 0, 9999) || !in(most, least, 99999)) return -2;
        World trial = world.copy();
        if (!put(trial, shape, way, number, least, most)) return -4;
        record();
        world = trial;
        return world.plans.size();
    }

    int set(int which, int value) {
        if (!in(which, 0, 4)) return -1;
        int[][] ranges = {{0, 999}, {1, 20}, {1, 999}, {1, 12}, {1, 20}};
        if (!in(value, ranges[which][0], ranges[which][1])) return -2;
        int was = world.settings[which];
        if (was == value) return -4;
        record();
        world.settings[which] = value;
        while (which == 3 && world.plans.size() > value && oldest(world) >= 0) {
            crowdOut(world);
        }
        return was;
    }

    int type(char character) {
        if (text.length() == 80) return -3;
        text = text + character;
        return text.length();
    }

    int clearText() {
        int was = text.length();
        text = "";
        return was;
    }

    int undo() {
        if (history.isEmpty()) return -4;
        world = history.removeLast();
        return history.size();
    }

    int keep() {
        snapshot = world.copy();
        return world.plans.size();
    }

    int restore() {
        if (snapshot == null) return -4;
        record();
        world = snapshot.copy();
        return world.plans.size();
    }

    int cost(int shape, int way, int number) {
        if (!in(shape, 0, 11)) return -1;
        if (!in(way, 0, 2) || !number(shape, number)) return -2;
        return costs(world, shape, number)[way];
    }

    int cheapest(int shape, int number) {
        if (!in(shape, 0, 11)) return -1;
        if (!number(shape, number)) return -2;
        return best(costs(world, shape, number));
    }

    int plan(int shape, int what) {
        Kept plan = world.plans.get(shape);
        if (plan == null) return -1;
        if (!in(what, 0, 10)) return -2;
        int asked = world.asked.size();
        int[] all = {plan.way, plan.least, plan.most, plan.number, plan.guess, asked - plan.madeAt,
            stale(world, shape) ? 1 : 0, plan.pinned ? 1 : 0, plan.uses, asked - plan.usedAt, plan.rows};
        return all[what];
    }

    int reason(int shape, int number) {
        if (!in(shape, 0, 11)) return -1;
        if (!number(shape, number)) return -2;
        return why(world, shape, number);
    }

    int ifAsked(int shape, int number, int what) {
        if (!in(shape, 0, 11)) return -1;
        if (!number(shape, number) || !in(what, 0, 4)) return -2;
        World trial = world.copy();
        boolean hit = why(world, shape, number) == 0;
        int[] costs = costs(world, shape, number);
        int way = hit ? world.plans.get(shape).way() : best(costs);
        int cost = asking(trial, shape, number);
        int first = -4;
        if (trial.crowded > world.crowded) {
            first = oldest(world);
        }
        int[] all = {cost, way, trial.bad - world.bad, first, cost - costs[best(costs)]};
        return all[what];
    }

    int reach(int shape, int way) {
        if (!in(shape, 0, 11)) return -1;
        if (!in(way, 0, 2)) return -2;
        int many = 0;
        for (int n = 0; n <= 200; n++) {
            many += cheapest(shape, n) == way ? 1 : 0;
        }
        return many;
    }

    int oldest() {
        return oldest(world);
    }

    int tableOf(int table, int what) {
        if (!in(table, 0, 3)) return -1;
        switch (what) {
            case 0: return world.rows[table];
            case 1: return world.keys[table];
            case 2: return (int) world.plans.keySet().stream().filter(s -> s / 3 == table).count();
            case 3: return (int) world.asked.stream().filter(a -> a.table == table).count();
            case 4: return world.asked.stream().filter(a -> a.table == table).mapToInt(Asked::cost).sum();
            default: return -2;
        }
    }

    int count(int what) {
        if (in(what, 10, 14)) return world.settings[what - 10];
        switch (what) {
            case 0: return world.plans.size();
            case 1: return (int) world.plans.values().stream().filter(Kept::pinned).count();
            case 2: return (int) world.plans.keySet().stream().filter(s -> stale(world, s)).count();
            case 3: return world.asked.size();
            case 4: return (int) world.asked.stream().filter(Asked::hit).count();
            case 5: return (int) world.asked.stream().filter(a -> !a.hit).count();
            case 6: return world.asked.stream().mapToInt(Asked::cost).sum();
            case 7: return world.asked.stream().mapToInt(Asked::looking).sum();
            case 8: return world.bad;
            case 9: return world.crowded;
            case 15: return history.size();
            case 16: return text.length();
            default: return -2;
        }
    }

    private static int bits(int x) {
        return x == 0 ? 0 : Integer.toBinaryString(x).length();
    }

    private static int[] costs(World world, int shape, int n) {
        int r = world.rows[shape / 3];
        int k = world.keys[shape / 3];
        switch (shape % 3) {
            case 0: return new int[] {r, bits(r) + 3 * n, 2 * r};
            case 1: return new int[] {r, bits(r) + 3 * (int) Math.min(r, Math.ceil((double) r * n / k)), 2 * r};
            default: return new int[] {r + n * bits(n), bits(r) + n, r + n * bits(r)};
        }
    }

    private static int best(int[] costs) {
        int least = Math.min(costs[0], Math.min(costs[1], costs[2]));
        return costs[0] == least ? 0 : costs[1] == least ? 1 : 2;
    }

    private static boolean changed(World world, int shape) {
        int made = world.plans.get(shape).rows();
        int half = made >> 1;
        return !in(world.rows[shape / 3], made - half, made + half);
    }

    private static boolean old(World world, int shape) {
        return world.asked.size() > world.plans.get(shape).madeAt() + world.settings[2];
    }

    private static boolean stale(World world, int shape) {
        return changed(world, shape) || old(world, shape);
    }

    private static int why(World world, int shape, int number) {
        Kept plan = world.plans.get(shape);
        if (plan == null) return 1;
        if (number < plan.least()) return 2;
        if (number > plan.most()) return 3;
        if (changed(world, shape)) return 4;
        return old(world, shape) ? 5 : 0;
    }

    private static int oldest(World world) {
        int found = -4;
        for (int shape : world.plans.descendingKeySet()) {
            Kept plan = world.plans.get(shape);
            if (!plan.pinned() && (found < 0 || plan.usedAt() <= world.plans.get(found).usedAt())) {
                found = shape;
            }
        }
        return found;
    }

    private static void crowdOut(World world) {
        world.plans.remove(oldest(world));
        world.crowded++;
    }

    private static int asking(World world, int shape, int number) {
        int[] costs = costs(world, shape, number);
        boolean hit = why(world, shape, number) == 0;
        int looking = hit ? 0 : world.settings[0];
        int cost = costs[hit ? world.plans.get(shape).way() : best(costs)];
        world.asked.add(new Asked(shape / 3, cost + looking, hit, looking));
        if (hit) {
            Kept plan = world.plans.get(shape);
            world.plans.put(shape, plan.used(world.asked.size()));
            if (cost > world.settings[4] * plan.guess()) {
                world.plans.remove(shape);
                world.bad++;
            }
        } else {
            int spread = world.settings[1];
            put(world, shape, best(costs), number, number / spread, number * spread);
        }
        return cost + looking;
    }

    private static boolean put(World world, int shape, int way, int number, int least, int most) {
        if (!world.plans.containsKey(shape)) {
            while (world.plans.size() >= world.settings[3]) {
                if (oldest(world) < 0) {
                    return false;
                }
                crowdOut(world);
            }
        }
        int at = world.asked.size();
        int guess = costs(world, shape, number)[way];
        world.plans.put(shape, new Kept(way, least, most, number, guess, world.rows[shape / 3], at, at, 0, false));
        return true;
    }
}
