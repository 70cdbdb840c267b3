import java.util.ArrayList;
import java.util.Arrays;
import java.util.Comparator;
import java.util.List;
import java.util.Random;
import java.util.TreeMap;
import java.util.function.ToIntFunction;

/**
 * Long runs of chosen calls, each answer held against that of a slow model that follows the
 * document's words one by one. The seeds are fixed, so every run is the same each time.
 */
public final class ModelTests {
    private static final int BAD = -1, NONE = -2, FULL = -3, LATE = -4, TURN = -5;
    private static final int MOST_CALLS = 512;
    private static final int LAST_TIME = 100_000;

    /** Runs in small worlds are short, so there are more of them. */
    private static final int SMALL_FOR_A_WIDE = 5;

    private static int wrong = 0;
    private static final int[] answersSeen = new int[6];
    private static int mostOut = 0;
    private static int versionsGone = 0;

    private static final class Row {
        int number, key, time, value;
        boolean waits = true, given = false;
        List<Integer> join = new ArrayList<>();
    }

    private static final class Model {
        final List<List<TreeMap<Integer, Integer>>> tables = new ArrayList<>();
        final int[] rules = new int[4];
        final int[] marks = new int[3];
        final List<Row> rows = new ArrayList<>();
        List<List<Integer>> out = new ArrayList<>();
        int rowMark, came, gives, takes, rowsWent, versionsWent, lates;
        boolean done;

        int table() {
            if (tables.size() == 3) return FULL;
            if (done) return TURN;
            List<TreeMap<Integer, Integer>> keys = new ArrayList<>();
            for (int k = 0; k < 16; k++) keys.add(new TreeMap<>());
            tables.add(keys);
            return tables.size() - 1;
        }

        int rule(int what, int v) {
            if (what < 0 || what > 3) return BAD;
            if (v < 0 || v > (what == 3 ? 1000 : 1)) return BAD;
            if (done) return TURN;
            int was = rules[what];
            rules[what] = v;
            return was;
        }

        boolean within(int n, int low, int high) { return low <= n && n <= high; }
        boolean isTable(int t) { return within(t, 0, tables.size() - 1); }
        int horizon() { return rowMark - rules[3]; }

        int versionsThere() {
            int n = 0;
            for (List<TreeMap<Integer, Integer>> t : tables) for (TreeMap<Integer, Integer> k : t) n += k.size();
            return n;
        }

        int change(int t, int key, int from, int value) {
            if (!isTable(t) || !within(key, 0, 15) || !within(from, 1, 100_000) || !within(value, -1, 1000)) return BAD;
            boolean late = from <= marks[t] && (rules[1] == 0 || from <= horizon());
            if (late) { lates++; return LATE; }
            if (versionsThere() == 160) return FULL;
            done = true;
            out = new ArrayList<>();
            tables.get(t).get(key).put(from, value);
            for (Row r : rows) {
                if (r.waits) continue;
                List<Integer> now = join(r);
                if (now.equals(r.join)) continue;
                if (r.given) send(r, 0);
                r.join = now;
                r.given = isGiven(now);
                if (r.given) send(r, 1);
            }
            return tables.get(t).get(key).size();
        }

        /** The FROM of the version as of a time, GONE or not; 0 if there is none. */
        int fromAsOf(TreeMap<Integer, Integer> versions, int time) {
            int best = 0;
            for (int from : versions.keySet()) {
                boolean counts = rules[0] == 0 ? from <= time : from < time;
                if (counts && from > best) best = from;
            }
            return best;
        }

        List<Integer> join(Row r) {
            List<Integer> join = new ArrayList<>();
            for (List<TreeMap<Integer, Integer>> t : tables) {
                int from = fromAsOf(t.get(r.key), r.time);
                boolean none = from == 0 || t.get(r.key).get(from) == -1;
                join.add(none ? NONE : from);
                join.add(none ? NONE : t.get(r.key).get(from));
            }
            return join;
        }

        boolean isGiven(List<Integer> join) { return rules[2] == 0 || !join.contains(NONE); }

        void send(Row r, int give) {
            List<Integer> one = new ArrayList<>(List.of(give, r.number, r.key, r.time, r.value));
            one.addAll(r.join);
            out.add(one);
            if (give == 1) gives++; else takes++;
        }

        void joinAll() {
            for (Row r : rows) {
                boolean can = r.waits;
                for (int t = 0; t < tables.size(); t++) can &= marks[t] >= r.time;
                if (!can) continue;
                r.waits = false;
                r.join = join(r);
                r.given = isGiven(r.join);
                if (r.given) send(r, 1);
            }
        }

        int row(int key, int time, int value) {
            if (!within(key, 0, 15) || !within(time, 1, 100_000) || !within(value, 0, 1000) || tables.isEmpty()) return BAD;
            if (time <= rowMark) { lates++; return LATE; }
            if (rows.size() == 96 || came == 30_000) return FULL;
            done = true;
            out = new ArrayList<>();
            Row r = new Row();
            r.number = came++;
            r.key = key;
            r.time = time;
            r.value = value;
            rows.add(r);
            rows.sort(Comparator.<Row>comparingInt(a -> a.time).thenComparingInt(a -> a.number));
            joinAll();
            return r.number;
        }

        int mark(int t, int time) {
            if ((t != -1 && !isTable(t)) || !within(time, 0, 100_000)) return BAD;
            int was = t == -1 ? rowMark : marks[t];
            if (time <= was) return NONE;
            done = true;
            out = new ArrayList<>();
            if (t == -1) rowMark = time; else marks[t] = time;
            joinAll();
            int before = rows.size();
            rows.removeIf(r -> !r.waits && r.time <= horizon());
            rowsWent += before - rows.size();
            for (List<TreeMap<Integer, Integer>> keys : tables) for (int k = 0; k < 16; k++) sweep(keys.get(k), k);
            return was;
        }

        void sweep(TreeMap<Integer, Integer> versions, int key) {
            List<Integer> going = new ArrayList<>();
            for (int f : versions.keySet()) {
                Integer g = versions.higherKey(f);
                if (g == null) continue;
                boolean needed = false;
                // No time ahead of f or behind g can have f, so the walk over the TIMES leaves them out.
                for (int t = Math.max(f, horizon() + 1); t <= g && !needed; t++) needed = fromAsOf(versions, t) == f;
                for (Row r : rows) needed |= r.waits && r.key == key && fromAsOf(versions, r.time) == f;
                if (!needed) going.add(f);
            }
            for (int f : going) versions.remove(f);
            versionsWent += going.size();
        }

        int out(int i, int what) {
            if (i == -1) return out.size();
            if (!within(i, 0, out.size() - 1) || !within(what, 0, out.get(i).size() - 1)) return BAD;
            return out.get(i).get(what);
        }

        int asOf(int t, int key, int time) {
            if (!isTable(t) || !within(key, 0, 15) || !within(time, 1, 100_000)) return BAD;
            int from = fromAsOf(tables.get(t).get(key), time);
            if (from == 0) return NONE;
            int value = tables.get(t).get(key).get(from);
            return value == -1 ? NONE : value;
        }

        int version(int t, int key, int i, int what) {
            if (!isTable(t) || !within(key, 0, 15) || !within(what, 0, 1)) return BAD;
            List<Integer> froms = new ArrayList<>(tables.get(t).get(key).keySet());
            if (!within(i, 0, froms.size() - 1)) return BAD;
            return what == 0 ? froms.get(i) : tables.get(t).get(key).get(froms.get(i));
        }

        int there(int i, int what) {
            if (!within(i, 0, rows.size() - 1) || !within(what, 0, 5)) return BAD;
            Row r = rows.get(i);
            return List.of(r.number, r.key, r.time, r.value, r.waits ? 1 : 0, r.given ? 1 : 0).get(what);
        }

        int count(int what) {
            int waiting = 0;
            for (Row r : rows) if (r.waits) waiting++;
            List<Integer> all = new ArrayList<>(List.of(tables.size(), versionsThere(), rows.size(), waiting, came, gives, takes));
            all.addAll(List.of(rowsWent, versionsWent, lates, rowMark));
            for (int t = 0; t < 3; t++) all.add(isTable(t) ? marks[t] : NONE);
            for (int r : rules) all.add(r);
            return within(what, 0, all.size() - 1) ? all.get(what) : BAD;
        }
    }

    /**
     * How a run goes: from which time on and how wide times are spread, how many keys there are, how far marks
     * go at a step, and which calls are frequent.
     */
    private static final class World {
        int acts, low, width, keys, step, rowStep, keep, rowShare, markShare, looks;

        /** Many versions and rows, over times that seldom meet. */
        static World wide(Random random) {
            World w = new World();
            w.acts = MOST_CALLS - 72;
            w.width = new int[] {12, 60, 400, 3_000}[random.nextInt(4)];
            w.keys = 1 + random.nextInt(random.nextBoolean() ? 2 : 16);
            w.step = 1 + random.nextInt(Math.max(1, w.width / (random.nextBoolean() ? 4 : 30)));
            // Slow row marks leave many joined rows to correct, quick ones let rows and versions go.
            w.rowStep = random.nextBoolean() ? w.step : Math.max(1, w.step / 8);
            w.keep = random.nextInt(3) == 0 ? 0 : random.nextInt(Math.min(1000, w.width));
            w.rowShare = random.nextInt(60);
            w.markShare = random.nextInt(5) == 0 ? random.nextInt(4) : 5 + random.nextInt(25);
            w.looks = 16;
            return w;
        }

        /** Six times at one end of the TIMES, so that FROMS, times of rows, marks and HORIZON meet all the time. */
        static World small(Random random) {
            World w = new World();
            w.acts = 40;
            w.low = random.nextBoolean() ? 0 : LAST_TIME - 6;
            w.width = 8;
            w.keys = 1 + random.nextInt(2);
            w.step = 2;
            w.rowStep = 1 + random.nextInt(2);
            w.keep = random.nextInt(4);
            w.rowShare = 20 + random.nextInt(30);
            w.markShare = 10 + random.nextInt(20);
            w.looks = 1;
            return w;
        }
    }

    /**
     * A run on an object and on the model. The object is made anew by the same calls when its 512 calls are used
     * up, so that all that is there may be looked at often.
     */
    private static final class Run {
        final String name;
        final Random random;
        final World world;
        final Model m = new Model();
        final List<ToIntFunction<AsOfJoins>> done = new ArrayList<>();
        AsOfJoins object = new AsOfJoins();
        int calls = 0;

        Run(String name, Random random, World world) {
            this.name = name;
            this.random = random;
            this.world = world;
        }

        int call(ToIntFunction<AsOfJoins> call) {
            if (calls == MOST_CALLS) {
                object = new AsOfJoins();
                for (ToIntFunction<AsOfJoins> one : done) one.applyAsInt(object);
                calls = done.size();
            }
            calls++;
            return call.applyAsInt(object);
        }

        int does(ToIntFunction<AsOfJoins> call) {
            int answer = call(call);
            done.add(call);
            return answer;
        }

        void same(String call, int got, int want, int... arguments) {
            if (want < 0) answersSeen[-want]++;
            if (got != want && wrong++ < 20) {
                System.out.println(name + ", behind " + done.size() + " calls: " + call + Arrays.toString(arguments)
                    + " answered " + got + ", due is " + want);
            }
        }

        void table() { same("table", does(AsOfJoins::table), m.table()); }
        void rule(int what, int v) { same("rule", does(x -> x.rule(what, v)), m.rule(what, v), what, v); }
        void change(int t, int key, int from, int value) {
            same("change", does(x -> x.change(t, key, from, value)), m.change(t, key, from, value), t, key, from, value);
        }
        void row(int key, int time, int value) {
            same("row", does(x -> x.row(key, time, value)), m.row(key, time, value), key, time, value);
        }
        void mark(int t, int time) { same("mark", does(x -> x.mark(t, time)), m.mark(t, time), t, time); }

        void out(int i, int what) { same("out", call(x -> x.out(i, what)), m.out(i, what), i, what); }
        void asOf(int t, int key, int time) {
            same("asOf", call(x -> x.asOf(t, key, time)), m.asOf(t, key, time), t, key, time);
        }
        void version(int t, int key, int i, int what) {
            same("version", call(x -> x.version(t, key, i, what)), m.version(t, key, i, what), t, key, i, what);
        }
        void there(int i, int what) { same("there", call(x -> x.there(i, what)), m.there(i, what), i, what); }
        void count(int what) { same("count", call(x -> x.count(what)), m.count(what), what); }

        /** Near the marks, so that edges come often; now and then anything. */
        int time() {
            if (random.nextInt(60) == 0) return wild();
            int near = random.nextInt(4);
            int base = near == 0 ? m.rowMark : near == 1 ? m.horizon() : near == 2 ? m.marks[random.nextInt(3)] : 0;
            if (near == 3 || base < world.low) return world.low + random.nextInt(2 * world.width);
            return base + random.nextInt(world.width) - world.width / 4;
        }

        int wild() {
            int[] all = {Integer.MIN_VALUE, -2, -1, 0, 1, 15, 16, LAST_TIME, LAST_TIME + 1, Integer.MAX_VALUE};
            return all[random.nextInt(all.length)];
        }

        int key() { return random.nextInt(80) == 0 ? wild() : random.nextInt(world.keys); }
        int tableNumber() { return random.nextInt(40) == 0 ? wild() : random.nextInt(Math.max(1, m.tables.size())); }
        int value(int low) { return random.nextInt(60) == 0 ? wild() * 1000 : low + random.nextInt(5); }

        void setUp() {
            int tables = random.nextInt(30) == 0 ? 0 : 1 + random.nextInt(3);
            for (int t = 0; t < tables; t++) table();
            for (int what = 0; what < 3; what++) rule(what, random.nextInt(2));
            rule(3, world.keep);
        }

        void act() {
            int pick = random.nextInt(100);
            if (pick < world.markShare) {
                raiseAMark();
            } else if (pick < world.markShare + world.rowShare) {
                row(key(), time(), value(0));
            } else if (pick < 97) {
                change(tableNumber(), key(), time(), value(-1));
            } else if (pick < 98) {
                table();
            } else {
                rule(random.nextInt(5), random.nextInt(3));
            }
        }

        void raiseAMark() {
            int t = random.nextInt(30) == 0 ? wild() : random.nextInt(m.tables.size() + 1) - 1;
            int was = Math.max(world.low, t == -1 ? m.rowMark : m.isTable(t) ? m.marks[t] : 0);
            int time = random.nextInt(20) == 0 ? wild() : was + random.nextInt((t == -1 ? world.rowStep : world.step) + 1);
            // A jump to the end would leave nothing to look at, so few runs make it.
            mark(t, time == LAST_TIME && random.nextInt(10) != 0 ? was : time);
        }

        void look() {
            out(random.nextInt(6) - 1, random.nextInt(12));
            asOf(tableNumber(), key(), time());
            count(random.nextInt(20) - 1);
        }

        void lookAtAll() {
            for (int what = -1; what <= 18; what++) count(what);
            for (int i = -1; i <= m.out.size(); i++) for (int what = -1; what <= 11; what++) out(i, what);
            for (int i = -1; i <= m.rows.size(); i++) for (int what = -1; what <= 6; what++) there(i, what);
            for (int t = 0; t < m.tables.size(); t++) for (int key = 0; key < world.keys; key++) lookAtVersions(t, key);
            mostOut = Math.max(mostOut, m.out.size());
        }

        void lookAtVersions(int t, int key) {
            for (int i = -1; i <= m.tables.get(t).get(key).size(); i++) {
                for (int what = 0; what < 2; what++) version(t, key, i, what);
            }
            if (world.width <= 8) {
                for (int time = world.low; time <= world.low + 8; time++) asOf(t, key, time);
            }
        }

        void go() {
            setUp();
            while (done.size() < world.acts) {
                act();
                look();
                if (done.size() % world.looks == 0 || m.out.size() > mostOut) lookAtAll();
            }
            lookAtAll();
            versionsGone += m.versionsWent;
        }
    }

    public static void main(String[] args) {
        int runs = args.length > 0 ? Integer.parseInt(args[0]) : 400;
        for (int seed = 1; seed <= runs; seed++) {
            Random random = new Random(seed);
            new Run("wide " + seed, random, World.wide(random)).go();
        }
        for (int seed = 1; seed <= SMALL_FOR_A_WIDE * runs; seed++) {
            Random random = new Random(seed);
            new Run("small " + seed, random, World.small(random)).go();
        }
        System.out.println("answers seen: BAD " + answersSeen[1] + ", NONE " + answersSeen[2] + ", FULL " + answersSeen[3]
            + ", LATE " + answersSeen[4] + ", TURN " + answersSeen[5] + "; most that went out at once " + mostOut
            + "; versions that went " + versionsGone);
        System.out.println(wrong == 0 ? "all answers are as due" : wrong + " answers are not as due");
        if (wrong != 0) {
            System.exit(1);
        }
    }
}
