import java.util.ArrayList;
import java.util.List;
import java.util.function.ToIntFunction;

/**
 * One test for each sentence of the document that names a boundary case, under that sentence's words:
 * the value just inside and the one just outside, the empty object, the full one, and each refused
 * call, which must leave everything else as it was.
 */
public final class BoundaryTests {
    private static final int BAD = -1, NONE = -2, FULL = -3, LATE = -4, TURN = -5;
    private static final int GIVE = 1, TAKE = 0, GONE = -1, ROWMARK = -1;
    private static final int SIDE = 0, LATES = 1, INNER = 2, KEEP = 3;
    private static final int MOST_CALLS = 512;

    /** Far outside of every range, also where sums and products of them would come round to the inside. */
    private static final int[] FAR = {
        Integer.MIN_VALUE, Integer.MIN_VALUE + 1, Integer.MIN_VALUE / 2, -65_536, -256, -16, -3, -2,
        100_002, 1 << 20, 1 << 28, 1 << 30, Integer.MAX_VALUE - 1, Integer.MAX_VALUE
    };

    private static String sentence = "";
    private static int tests = 0;
    private static int wrong = 0;

    private static void test(String words, Runnable body) {
        sentence = words;
        tests++;
        body.run();
    }

    private static void fail(String text) {
        wrong++;
        System.out.println("'" + sentence + "': " + text);
    }

    private static void due(String what, int got, int want) {
        if (got != want) {
            fail(what + " answered " + got + ", due is " + want);
        }
    }

    /**
     * A run of calls on one object. The object is made anew by the same calls when its 512 calls are
     * used up, so that all that is there may be looked at without leaving what the document promises.
     */
    private static final class Run {
        private final List<ToIntFunction<AsOfJoins>> done = new ArrayList<>();
        private AsOfJoins object = new AsOfJoins();
        private int calls = 0;

        private int call(ToIntFunction<AsOfJoins> call) {
            if (calls >= MOST_CALLS) {
                object = new AsOfJoins();
                for (ToIntFunction<AsOfJoins> one : done) {
                    one.applyAsInt(object);
                }
                calls = done.size();
                if (calls >= MOST_CALLS) {
                    fail("the test itself makes too many calls");
                }
            }
            calls++;
            return call.applyAsInt(object);
        }

        int does(ToIntFunction<AsOfJoins> call) {
            int answer = call(call);
            done.add(call);
            return answer;
        }

        int table() { return does(AsOfJoins::table); }
        int rule(int what, int v) { return does(x -> x.rule(what, v)); }
        int change(int table, int key, int from, int value) { return does(x -> x.change(table, key, from, value)); }
        int row(int key, int time, int value) { return does(x -> x.row(key, time, value)); }
        int mark(int table, int time) { return does(x -> x.mark(table, time)); }

        int out(int i, int what) { return call(x -> x.out(i, what)); }
        int asOf(int table, int key, int time) { return call(x -> x.asOf(table, key, time)); }
        int version(int table, int key, int i, int what) { return call(x -> x.version(table, key, i, what)); }
        int there(int i, int what) { return call(x -> x.there(i, what)); }
        int count(int what) { return call(x -> x.count(what)); }

        /** All that can be seen: the counts first, each under its number. */
        List<Integer> state() {
            List<Integer> all = new ArrayList<>();
            for (int what = 0; what <= 17; what++) {
                all.add(count(what));
            }
            int tables = all.get(0);
            int side = all.get(14);
            // Whether rules are open still: to set one to what it is changes nothing.
            all.add(call(x -> x.rule(SIDE, side)));
            int outs = out(-1, 0);
            all.add(outs);
            for (int i = 0; i < outs; i++) {
                for (int what = 0; what < 5 + 2 * tables; what++) {
                    all.add(out(i, what));
                }
            }
            for (int t = 0; t < tables; t++) {
                for (int key = 0; key < 16; key++) {
                    for (int i = 0; version(t, key, i, 0) >= 0; i++) {
                        all.addAll(List.of(t, key, version(t, key, i, 0), version(t, key, i, 1)));
                    }
                }
            }
            for (int i = 0; i < all.get(2); i++) {
                for (int what = 0; what <= 5; what++) {
                    all.add(there(i, what));
                }
            }
            return all;
        }

        /** A call that is refused: nothing but the number of LATE answers is another one behind it. */
        void refuses(String what, int want, ToIntFunction<AsOfJoins> call) {
            List<Integer> due = state();
            if (want == LATE) {
                due.set(9, due.get(9) + 1);
            }
            due(what, does(call), want);
            List<Integer> now = state();
            if (!now.equals(due)) {
                fail(what + " was refused but left " + now + ", due is " + due);
            }
        }

        void refusesTable(int want) { refuses("table()", want, AsOfJoins::table); }

        void refusesRule(int want, int what, int v) {
            refuses("rule(" + what + ", " + v + ")", want, x -> x.rule(what, v));
        }

        void refusesChange(int want, int table, int key, int from, int value) {
            refuses("change(" + table + ", " + key + ", " + from + ", " + value + ")", want,
                    x -> x.change(table, key, from, value));
        }

        void refusesRow(int want, int key, int time, int value) {
            refuses("row(" + key + ", " + time + ", " + value + ")", want, x -> x.row(key, time, value));
        }

        void refusesMark(int want, int table, int time) {
            refuses("mark(" + table + ", " + time + ")", want, x -> x.mark(table, time));
        }

        void refusesAsOf(int want, int table, int key, int time) {
            refuses("asOf(" + table + ", " + key + ", " + time + ")", want, x -> x.asOf(table, key, time));
        }

        void refusesVersion(int table, int key, int i, int what) {
            refuses("version(" + table + ", " + key + ", " + i + ", " + what + ")", BAD,
                    x -> x.version(table, key, i, what));
        }

        void refusesOut(int i, int what) {
            refuses("out(" + i + ", " + what + ")", BAD, x -> x.out(i, what));
        }

        void refusesThere(int i, int what) {
            refuses("there(" + i + ", " + what + ")", BAD, x -> x.there(i, what));
        }

        void refusesCount(int what) {
            refuses("count(" + what + ")", BAD, x -> x.count(what));
        }
    }

    private static Run made(int tables, int side, int lates, int inner, int keep) {
        Run r = new Run();
        for (int t = 0; t < tables; t++) {
            due("table()", r.table(), t);
        }
        due("SIDE", r.rule(SIDE, side), 0);
        due("LATES", r.rule(LATES, lates), 0);
        due("INNER", r.rule(INNER, inner), 0);
        due("KEEP", r.rule(KEEP, keep), 0);
        return r;
    }

    /** All that went out by the latest call, each line whole. */
    private static void dueOuts(String what, Run r, int[]... lines) {
        due(what + ": how many went out", r.out(-1, 0), lines.length);
        for (int i = 0; i < lines.length; i++) {
            for (int c = 0; c < lines[i].length; c++) {
                due(what + ": out(" + i + ", " + c + ")", r.out(i, c), lines[i][c]);
            }
            due(what + ": out(" + i + ", behind the last)", r.out(i, lines[i].length), BAD);
        }
        due(what + ": out behind the last", r.out(lines.length, 0), BAD);
    }

    /** The numbers of the rows that went out, and nothing but GIVES. */
    private static void dueGives(String what, Run r, int... numbers) {
        due(what + ": how many went out", r.out(-1, 0), numbers.length);
        for (int i = 0; i < numbers.length; i++) {
            due(what + ": kind of " + i, r.out(i, 0), GIVE);
            due(what + ": row of " + i, r.out(i, 1), numbers[i]);
        }
    }

    /** The FROMS and VALUES of all versions of a table and key, by turns. */
    private static void dueVersions(String what, Run r, int table, int key, int... pairs) {
        for (int c = 0; c < pairs.length; c++) {
            due(what + ": version " + c / 2 + ", " + c % 2, r.version(table, key, c / 2, c % 2), pairs[c]);
        }
        due(what + ": version behind the last", r.version(table, key, pairs.length / 2, 0), BAD);
    }

    /** All rows that are there, each line whole: number, KEY, TIME, VALUE, WAITS, GIVEN. */
    private static void dueRows(String what, Run r, int[]... lines) {
        due(what + ": rows that are there", r.count(2), lines.length);
        for (int i = 0; i < lines.length; i++) {
            for (int c = 0; c < 6; c++) {
                due(what + ": there(" + i + ", " + c + ")", r.there(i, c), lines[i][c]);
            }
        }
        due(what + ": there behind the last", r.there(lines.length, 0), BAD);
    }

    private static int[] line(int... cells) {
        return cells;
    }

    // ---- What it is, and terms

    private static void allCallsOfAnObject() {
        AsOfJoins x = new AsOfJoins();
        due("call 1", x.table(), 0);
        for (int n = 0; n < 170; n++) {
            due("row " + n, x.row(n % 16, n + 1, n), n);
            due("mark of the table", x.mark(0, n + 1), n);
            due("mark of rows", x.mark(-1, n + 1), n);
        }
        due("call 512", x.count(7), 170);

        x = new AsOfJoins();
        due("call 1", x.table(), 0);
        due("LATES", x.rule(LATES, 1), 0);
        due("mark", x.mark(0, 100_000), 0);
        for (int n = 0; n < 96; n++) {
            due("row " + n, x.row(5, 96 - n, n), n);
        }
        for (int n = 0; n < 411; n++) {
            due("a correction of all rows", x.change(0, 5, 1, n % 2), 1);
        }
        due("gives at call 511", x.count(5), 96 + 411 * 96);
        due("takes at call 512", x.count(6), 411 * 96);
    }

    private static void tableNumbers() {
        for (int tables = 0; tables <= 3; tables++) {
            Run r = made(tables, 0, 0, 0, 0);
            List<Integer> none = new ArrayList<>(List.of(tables, tables + 1, 3, -2));
            for (int far : FAR) {
                none.add(far);
            }
            for (int t : none) {
                r.refusesChange(BAD, t, 0, 1, 1);
                r.refusesMark(BAD, t, 1);
                r.refusesAsOf(BAD, t, 0, 1);
                r.refusesVersion(t, 0, 0, 0);
            }
            r.refusesChange(BAD, -1, 0, 1, 1);
            r.refusesAsOf(BAD, -1, 0, 1);
            r.refusesVersion(-1, 0, 0, 0);
            for (int t = 0; t < tables; t++) {
                due("change of table " + t, r.change(t, 0, 2, 10 + t), 1);
                due("asOf of table " + t, r.asOf(t, 0, 2), 10 + t);
                due("version of table " + t, r.version(t, 0, 0, 1), 10 + t);
                due("mark of table " + t, r.mark(t, 1), 0);
                due("count of its mark", r.count(11 + t), 1);
            }
            due("versions", r.count(1), tables);
        }
    }

    private static void keys() {
        Run r = made(1, 0, 0, 0, 0);
        List<Integer> none = new ArrayList<>(List.of(-1, 16, 17, 32));
        for (int far : FAR) {
            none.add(far);
        }
        for (int pass = 0; pass < 2; pass++) {
            for (int key : none) {
                r.refusesChange(BAD, 0, key, 5, 1);
                r.refusesRow(BAD, key, 5, 1);
                r.refusesAsOf(BAD, 0, key, 5);
                r.refusesVersion(0, key, 0, 0);
            }
            for (int key = 0; key < 16; key += 15) {
                due("change of key " + key, r.change(0, key, 5 + pass, 100 + key), 1 + pass);
                due("asOf of key " + key, r.asOf(0, key, 5 + pass), 100 + key);
                due("version of key " + key, r.version(0, key, pass, 1), 100 + key);
                due("row of key " + key, r.row(key, 5 + pass, 1), 2 * pass + key / 15);
            }
        }
        due("keys between have none", r.asOf(0, 1, 9), NONE);
        due("keys between have none", r.asOf(0, 14, 9), NONE);
    }

    private static void keysOfNeighbours() {
        Run r = made(3, 0, 0, 0, 0);
        for (int t = 0; t < 3; t++) {
            for (int key = 0; key < 16; key++) {
                due("change", r.change(t, key, 5, 16 * t + key), 1);
            }
        }
        for (int t = 0; t < 3; t++) {
            int[] beyond = {-33, -32, -17, -16, -1, 16, 31, 32, 47};
            for (int key : beyond) {
                r.refusesVersion(t, key, 0, 1);
                r.refusesAsOf(BAD, t, key, 5);
                r.refusesChange(BAD, t, key, 6, 1);
            }
            due("key 0", r.version(t, 0, 0, 1), 16 * t);
            due("key 15", r.version(t, 15, 0, 1), 16 * t + 15);
        }
        r.refusesVersion(-1, 16, 0, 1);
        r.refusesVersion(3, -1, 0, 1);
        r.refusesAsOf(BAD, -1, 16, 5);
        r.refusesAsOf(BAD, 3, -1, 5);
        r.refusesVersion(1, 0, 1, 1);
        r.refusesVersion(1, 0, -1, 1);
    }

    private static void times() {
        Run r = made(1, 0, 0, 0, 0);
        List<Integer> none = new ArrayList<>(List.of(0, -1, 100_001));
        for (int far : FAR) {
            none.add(far);
        }
        for (int pass = 0; pass < 2; pass++) {
            for (int time : none) {
                r.refusesChange(BAD, 0, 3, time, 1);
                r.refusesRow(BAD, 3, time, 1);
                r.refusesAsOf(BAD, 0, 3, time);
            }
            if (pass == 0) {
                due("change from 100,000", r.change(0, 3, 100_000, 9), 1);
                due("change from 1", r.change(0, 3, 1, 8), 2);
                due("row at 100,000", r.row(3, 100_000, 1), 0);
                due("row at 1", r.row(3, 1, 1), 1);
            }
        }
        due("asOf 1", r.asOf(0, 3, 1), 8);
        due("asOf 99,999", r.asOf(0, 3, 99_999), 8);
        due("asOf 100,000", r.asOf(0, 3, 100_000), 9);
        dueVersions("both ends", r, 0, 3, 1, 8, 100_000, 9);
        dueRows("both ends", r, line(1, 3, 1, 1, 1, 0), line(0, 3, 100_000, 1, 1, 0));
    }

    private static void values() {
        Run r = made(1, 0, 0, 0, 0);
        List<Integer> none = new ArrayList<>(List.of(-2, 1_001, 1_002));
        for (int far : FAR) {
            none.add(far);
        }
        for (int value : none) {
            r.refusesChange(BAD, 0, 0, 7, value);
            r.refusesRow(BAD, 0, 7, value);
        }
        r.refusesRow(BAD, 0, 7, -1);
        due("GONE", r.change(0, 0, 7, GONE), 1);
        due("0", r.change(0, 0, 8, 0), 2);
        due("1,000", r.change(0, 0, 9, 1_000), 3);
        dueVersions("values", r, 0, 0, 7, GONE, 8, 0, 9, 1_000);
        due("row with 0", r.row(0, 7, 0), 0);
        due("row with 1,000", r.row(0, 8, 1_000), 1);
        dueRows("values", r, line(0, 0, 7, 0, 1, 0), line(1, 0, 8, 1_000, 1, 0));
        due("mark", r.mark(0, 9), 0);
        dueOuts("values", r, line(GIVE, 0, 0, 7, 0, NONE, NONE), line(GIVE, 1, 0, 8, 1_000, 8, 0));
    }

    private static void notAboveTheTime() {
        Run r = made(1, 0, 0, 0, 0);
        r.change(0, 2, 50, 5);
        due("FROM one above", r.asOf(0, 2, 49), NONE);
        due("FROM at the time", r.asOf(0, 2, 50), 5);
        due("FROM one below", r.asOf(0, 2, 51), 5);
        r.row(2, 49, 1);
        r.row(2, 50, 2);
        r.row(2, 51, 3);
        r.mark(0, 100);
        dueOuts("joins", r, line(GIVE, 0, 2, 49, 1, NONE, NONE), line(GIVE, 1, 2, 50, 2, 50, 5),
                line(GIVE, 2, 2, 51, 3, 50, 5));
        r = made(1, 0, 0, 0, 0);
        r.change(0, 2, 1, 5);
        r.change(0, 3, 100_000, 6);
        due("the first time", r.asOf(0, 2, 1), 5);
        due("the last time", r.asOf(0, 3, 100_000), 6);
    }

    private static void belowTheTime() {
        Run r = made(1, 1, 0, 0, 0);
        r.change(0, 2, 50, 5);
        due("FROM one above", r.asOf(0, 2, 49), NONE);
        due("FROM at the time", r.asOf(0, 2, 50), NONE);
        due("FROM one below", r.asOf(0, 2, 51), 5);
        r.row(2, 49, 1);
        r.row(2, 50, 2);
        r.row(2, 51, 3);
        r.mark(0, 100);
        dueOuts("joins", r, line(GIVE, 0, 2, 49, 1, NONE, NONE), line(GIVE, 1, 2, 50, 2, NONE, NONE),
                line(GIVE, 2, 2, 51, 3, 50, 5));
        r = made(1, 1, 0, 0, 0);
        r.change(0, 2, 1, 5);
        r.change(0, 3, 100_000, 6);
        due("nothing is below the first time", r.asOf(0, 2, 1), NONE);
        due("the second time", r.asOf(0, 2, 2), 5);
        due("the last time", r.asOf(0, 3, 100_000), NONE);
    }

    private static void greatestFrom() {
        int[][] orders = {{10, 20, 30}, {10, 30, 20}, {20, 10, 30}, {20, 30, 10}, {30, 10, 20}, {30, 20, 10}};
        for (int[] froms : orders) {
            for (int side = 0; side < 2; side++) {
                Run r = made(1, side, 0, 0, 0);
                for (int n = 0; n < 3; n++) {
                    due("change", r.change(0, 4, froms[n], 1_000 - froms[n]), n + 1);
                }
                due("ahead of all", r.asOf(0, 4, 9 + side), NONE);
                due("10", r.asOf(0, 4, 10 + side), 990);
                due("10", r.asOf(0, 4, 19 + side), 990);
                due("20", r.asOf(0, 4, 20 + side), 980);
                due("20", r.asOf(0, 4, 29 + side), 980);
                due("30", r.asOf(0, 4, 30 + side), 970);
                due("30", r.asOf(0, 4, 100_000), 970);
                dueVersions("by FROM", r, 0, 4, 10, 990, 20, 980, 30, 970);
            }
        }
    }

    private static void noVersion() {
        Run r = made(3, 0, 0, 0, 0);
        r.refusesAsOf(NONE, 1, 5, 1);
        r.refusesAsOf(NONE, 1, 5, 100_000);
        r.change(0, 5, 1, 1);
        r.change(2, 5, 1, 2);
        r.change(1, 4, 1, 3);
        r.change(1, 6, 1, 4);
        r.refusesAsOf(NONE, 1, 5, 100_000);
        dueVersions("those of neighbours are not its own", r, 1, 5);
        r.row(5, 9, 1);
        r.mark(0, 9);
        r.mark(1, 9);
        r.mark(2, 9);
        dueOuts("join", r, line(GIVE, 0, 5, 9, 1, 1, 1, NONE, NONE, 1, 2));
    }

    private static void goneVersion() {
        Run r = made(1, 0, 0, 0, 0);
        r.change(0, 6, 10, 1);
        r.change(0, 6, 20, GONE);
        r.change(0, 6, 30, 0);
        due("ahead of GONE", r.asOf(0, 6, 19), 1);
        r.refusesAsOf(NONE, 0, 6, 20);
        r.refusesAsOf(NONE, 0, 6, 29);
        due("behind GONE", r.asOf(0, 6, 30), 0);
        r.row(6, 19, 1);
        r.row(6, 20, 2);
        r.row(6, 29, 3);
        r.row(6, 30, 4);
        r.mark(0, 50);
        dueOuts("joins", r, line(GIVE, 0, 6, 19, 1, 10, 1), line(GIVE, 1, 6, 20, 2, NONE, NONE),
                line(GIVE, 2, 6, 29, 3, NONE, NONE), line(GIVE, 3, 6, 30, 4, 30, 0));
    }

    private static void numbersOfRows() {
        Run r = made(1, 0, 0, 0, 0);
        due("first", r.row(0, 20, 1), 0);
        r.refusesRow(BAD, 16, 20, 1);
        due("second", r.row(0, 10, 1), 1);
        r.mark(ROWMARK, 10);
        r.refusesRow(LATE, 0, 10, 1);
        due("third", r.row(0, 15, 1), 2);
        r.mark(0, 30);
        r.mark(ROWMARK, 30);
        due("all went", r.count(2), 0);
        due("numbers are not used again", r.row(0, 31, 1), 3);
        due("came", r.count(4), 4);
    }

    private static void joinOfEachTable() {
        for (int mask = 0; mask < 8; mask++) {
            Run r = made(3, 0, 0, 0, 0);
            int[] due = {GIVE, 0, 7, 40, 9, NONE, NONE, NONE, NONE, NONE, NONE};
            for (int t = 0; t < 3; t++) {
                if ((mask >> t & 1) == 1) {
                    r.change(t, 7, 10 + t, 100 + t);
                    due[5 + 2 * t] = 10 + t;
                    due[6 + 2 * t] = 100 + t;
                }
            }
            r.row(7, 40, 9);
            r.mark(0, 40);
            r.mark(1, 40);
            r.mark(2, 40);
            dueOuts("tables " + mask, r, due);
        }
    }

    private static void givenWithoutInner() {
        for (int tables = 1; tables <= 3; tables++) {
            Run r = made(tables, 0, 0, 0, 0);
            r.row(1, 5, 2);
            for (int t = 0; t < tables; t++) {
                r.mark(t, 5);
            }
            dueGives("none of any table", r, 0);
            dueRows("given", r, line(0, 1, 5, 2, 0, 1));
        }
    }

    private static void givenWithInner() {
        for (int tables = 1; tables <= 3; tables++) {
            for (int mask = 0; mask < 1 << tables; mask++) {
                for (int missing = 0; missing < 2; missing++) {
                    Run r = made(tables, 0, 0, 1, 0);
                    for (int t = 0; t < tables; t++) {
                        if ((mask >> t & 1) == 1) {
                            r.change(t, 1, 5, 0);
                        } else if (missing == 1) {
                            r.change(t, 1, 4, 7);
                            r.change(t, 1, 5, GONE);
                        } else {
                            r.change(t, 1, 6, 7);
                        }
                    }
                    r.row(1, 5, 2);
                    for (int t = 0; t < tables; t++) {
                        r.mark(t, 5);
                    }
                    boolean given = mask == (1 << tables) - 1;
                    due("gives, " + tables + " tables, " + mask, r.out(-1, 0), given ? 1 : 0);
                    due("gives in all", r.count(5), given ? 1 : 0);
                    dueRows("joined", r, line(0, 1, 5, 2, 0, given ? 1 : 0));
                }
            }
        }
    }

    private static void marksNeverFall() {
        Run r = made(3, 0, 0, 0, 0);
        for (int t = -1; t < 3; t++) {
            int what = t == -1 ? 10 : 11 + t;
            due("at first", r.count(what), 0);
            r.refusesMark(NONE, t, 0);
            due("up", r.mark(t, 1), 0);
            r.refusesMark(NONE, t, 1);
            r.refusesMark(NONE, t, 0);
            due("up", r.mark(t, 2), 1);
            r.refusesMark(NONE, t, 1);
            due("up to the last", r.mark(t, 100_000), 2);
            r.refusesMark(NONE, t, 100_000);
            r.refusesMark(NONE, t, 99_999);
            due("it stands", r.count(what), 100_000);
        }
    }

    private static void horizonIsRowmarkLessKeep() {
        int[] keeps = {0, 1, 2, 999, 1_000};
        for (int keep : keeps) {
            Run r = made(1, 0, 0, 0, keep);
            r.mark(0, 100_000);
            r.row(0, 1, 1);
            r.row(0, 500, 2);
            r.row(0, 501, 3);
            if (keep > 0) {
                r.mark(ROWMARK, keep);
                due("HORIZON 0", r.count(2), 3);
            }
            r.mark(ROWMARK, 1 + keep);
            due("HORIZON 1", r.count(2), 2);
            r.mark(ROWMARK, 499 + keep);
            due("HORIZON 499", r.count(2), 2);
            r.mark(ROWMARK, 500 + keep);
            due("HORIZON 500", r.count(2), 1);
            r.mark(ROWMARK, 501 + keep);
            due("HORIZON 501", r.count(2), 0);
        }
    }

    // ---- 2: changes that are late, rows that are, rows that wait

    private static void inPlaceOfTheSameFrom() {
        Run r = made(2, 0, 0, 0, 0);
        due("first", r.change(0, 8, 10, 1), 1);
        due("one below", r.change(0, 8, 9, 2), 2);
        due("one above", r.change(0, 8, 11, 3), 3);
        due("other key", r.change(0, 9, 10, 4), 1);
        due("other table", r.change(1, 8, 10, 5), 1);
        due("versions", r.count(1), 5);
        due("the same FROM", r.change(0, 8, 10, 6), 3);
        due("the same FROM, the first", r.change(0, 8, 9, GONE), 3);
        due("the same FROM, the last", r.change(0, 8, 11, 0), 3);
        due("versions", r.count(1), 5);
        due("a version that was replaced did not go", r.count(8), 0);
        dueVersions("in place", r, 0, 8, 9, GONE, 10, 6, 11, 0);
        dueVersions("other key", r, 0, 9, 10, 4);
        dueVersions("other table", r, 1, 8, 10, 5);
        due("GONE may be replaced", r.change(0, 8, 9, 7), 3);
        due("by a value", r.asOf(0, 8, 9), 7);
    }

    private static void lateByTheMark() {
        for (int t = 0; t < 3; t++) {
            Run r = made(3, 0, 0, 0, 1_000);
            r.mark(t, 50);
            r.mark(ROWMARK, 60);
            r.refusesChange(LATE, t, 0, 50, 1);
            r.refusesChange(LATE, t, 0, 49, 1);
            r.refusesChange(LATE, t, 0, 1, GONE);
            due("one above the MARK", r.change(t, 0, 51, 1), 1);
            due("another table's MARK", r.change((t + 1) % 3, 0, 50, 1), 1);
            due("another table's MARK", r.change((t + 2) % 3, 0, 1, 1), 1);
            r.mark(t, 51);
            r.refusesChange(LATE, t, 0, 51, 2);
            due("the version stands", r.asOf(t, 0, 51), 1);
            due("late answers", r.count(9), 4);
        }
        Run r = made(1, 0, 0, 0, 0);
        due("no MARK yet", r.change(0, 0, 1, 1), 1);
        r.mark(0, 100_000);
        r.refusesChange(LATE, 0, 0, 100_000, 1);
    }

    private static void lateByTheHorizon() {
        int[] keeps = {0, 1, 20, 1_000};
        for (int keep : keeps) {
            Run r = made(2, 0, 1, 0, keep);
            r.mark(0, 5_000);
            r.mark(ROWMARK, 2_000);
            int horizon = 2_000 - keep;
            r.refusesChange(LATE, 0, 0, horizon, 1);
            r.refusesChange(LATE, 0, 0, horizon - 1, 1);
            r.refusesChange(LATE, 0, 0, 1, 1);
            due("one above HORIZON", r.change(0, 0, horizon + 1, 1), 1);
            due("at the MARK", r.change(0, 0, 5_000, 1), 2);
            r.mark(ROWMARK, 2_001);
            r.refusesChange(LATE, 0, 0, horizon + 1, 2);
            due("one above HORIZON again", r.change(0, 0, horizon + 2, 1), 3);
        }
    }

    private static void horizonBelowZero() {
        Run r = made(1, 0, 1, 0, 1_000);
        r.mark(0, 100_000);
        due("HORIZON - 1,000", r.change(0, 0, 1, 1), 1);
        r.mark(ROWMARK, 999);
        due("HORIZON - 1", r.change(0, 0, 1, 2), 1);
        r.mark(ROWMARK, 1_000);
        due("HORIZON 0", r.change(0, 0, 1, 3), 1);
        r.mark(ROWMARK, 1_001);
        r.refusesChange(LATE, 0, 0, 1, 4);
        due("HORIZON 1", r.change(0, 0, 2, 4), 2);
        dueVersions("HORIZON 1", r, 0, 0, 1, 3, 2, 4);

        r = made(1, 0, 0, 0, 1_000);
        r.mark(0, 1);
        r.refusesChange(LATE, 0, 0, 1, 1);
    }

    private static void neverLateAboveTheMark() {
        for (int lates = 0; lates < 2; lates++) {
            Run r = made(2, 0, lates, 0, 0);
            r.mark(ROWMARK, 100_000);
            due("no MARK, HORIZON 100,000", r.change(0, 0, 1, 1), 1);
            due("no MARK, HORIZON 100,000", r.change(0, 1, 100_000, 1), 1);
            r.mark(0, 40);
            due("above the MARK, below HORIZON", r.change(0, 0, 41, 2), 2);
            r.refusesChange(LATE, 0, 0, 40, 3);
            r.mark(0, 99_999);
            due("at HORIZON", r.change(0, 2, 100_000, 4), 1);
            r.mark(0, 100_000);
            r.refusesChange(LATE, 0, 2, 100_000, 5);
            due("late answers", r.count(9), 2);
        }
    }

    private static void lateRows() {
        for (int lates = 0; lates < 2; lates++) {
            Run r = made(2, 0, lates, 0, 1_000 * lates);
            due("no ROWMARK", r.row(0, 1, 1), 0);
            r.mark(0, 90);
            r.mark(1, 90);
            due("MARKS of tables do not count", r.row(0, 2, 1), 1);
            r.mark(ROWMARK, 50);
            r.refusesRow(LATE, 0, 50, 1);
            r.refusesRow(LATE, 0, 49, 1);
            r.refusesRow(LATE, 15, 1, 1_000);
            due("one above", r.row(0, 51, 1), 2);
            r.mark(ROWMARK, 51);
            r.refusesRow(LATE, 0, 51, 1);
            due("one above", r.row(0, 52, 1), 3);
            due("late answers", r.count(9), 4);
            r.mark(ROWMARK, 100_000);
            r.refusesRow(LATE, 0, 100_000, 1);
        }
    }

    private static void rowsWaitForAllTables() {
        for (int tables = 1; tables <= 3; tables++) {
            for (int last = 0; last < tables; last++) {
                Run r = made(tables, 0, 0, 0, 0);
                r.row(3, 20, 1);
                dueRows("no MARK", r, line(0, 3, 20, 1, 1, 0));
                for (int t = 0; t < tables; t++) {
                    if (t != last) {
                        due("MARK", r.mark(t, 20 + t), 0);
                        due("waits for another table", r.count(3), 1);
                    }
                }
                r.mark(ROWMARK, 100_000);
                due("ROWMARK does not count", r.count(3), 1);
                due("MARK one below", r.mark(last, 19), 0);
                dueGives("MARK one below", r);
                dueRows("MARK one below", r, line(0, 3, 20, 1, 1, 0));
                due("MARK at it", r.mark(last, 20), 19);
                dueGives("MARK at it", r, 0);
                due("none waits", r.count(3), 0);
            }
        }
    }

    private static void joinedAtOnce() {
        Run r = made(2, 0, 0, 0, 0);
        r.mark(0, 30);
        r.mark(1, 25);
        due("row at the lowest MARK", r.row(0, 25, 1), 0);
        dueGives("row at the lowest MARK", r, 0);
        due("row one above", r.row(0, 26, 1), 1);
        dueGives("row one above", r);
        due("row below", r.row(0, 1, 1), 2);
        dueGives("the row alone, not one that was joined before", r, 2);
        due("waiting", r.count(3), 1);
        r.change(0, 0, 31, 1);
        dueGives("a change joins none", r);
        r.mark(ROWMARK, 1);
        dueGives("ROWMARK joins none", r);
        due("waiting", r.count(3), 1);
        r.mark(1, 26);
        dueGives("MARK", r, 1);
    }

    private static void order() {
        Run r = made(1, 0, 0, 0, 0);
        int[] times = {30, 10, 20, 10, 30, 20, 10, 100_000, 1, 99_999};
        for (int n = 0; n < times.length; n++) {
            due("row", r.row(15 - n, times[n], n), n);
        }
        int[] numbers = {8, 1, 3, 6, 2, 5, 0, 4, 9, 7};
        for (int i = 0; i < numbers.length; i++) {
            due("there, in ORDER", r.there(i, 0), numbers[i]);
            due("its KEY", r.there(i, 1), 15 - numbers[i]);
            due("its TIME", r.there(i, 2), times[numbers[i]]);
            due("its VALUE", r.there(i, 3), numbers[i]);
        }
        r.mark(0, 10);
        dueGives("up to 10", r, 8, 1, 3, 6);
        due("row of a time that is joined", r.row(0, 10, 1), 10);
        due("it stands behind those of its time", r.there(4, 0), 10);
        r.mark(0, 99_999);
        dueGives("up to 99,999", r, 2, 5, 0, 4, 9);
        r.mark(0, 100_000);
        dueGives("the last", r, 7);
    }

    private static void noGiveIfNotGiven() {
        Run r = made(1, 0, 0, 1, 0);
        r.change(0, 0, 10, 1);
        r.change(0, 0, 20, GONE);
        r.row(0, 9, 1);
        r.row(0, 10, 2);
        r.row(0, 19, 3);
        r.row(0, 20, 4);
        r.mark(0, 20);
        dueGives("those that have a version", r, 1, 2);
        dueRows("all are joined", r, line(0, 0, 9, 1, 0, 0), line(1, 0, 10, 2, 0, 1), line(2, 0, 19, 3, 0, 1),
                line(3, 0, 20, 4, 0, 0));
        due("gives", r.count(5), 2);
        due("none waits", r.count(3), 0);
        r.row(1, 5, 1);
        dueGives("a row that is not GIVEN, joined at once", r);
        r.mark(ROWMARK, 20);
        due("they go as the others", r.count(7), 5);
    }

    // ---- 2: corrections

    private static void correctionsOfJoinedRows() {
        Run r = made(2, 0, 1, 0, 100);
        r.mark(0, 20);
        r.mark(1, 20);
        r.row(0, 20, 1);
        r.row(0, 21, 2);
        r.change(0, 0, 5, 7);
        dueOuts("the waiting row is not corrected", r, line(TAKE, 0, 0, 20, 1, NONE, NONE, NONE, NONE),
                line(GIVE, 0, 0, 20, 1, 5, 7, NONE, NONE));
        dueRows("it waits", r, line(0, 0, 20, 1, 0, 1), line(1, 0, 21, 2, 1, 0));
        r.mark(0, 21);
        r.mark(1, 21);
        dueOuts("it is joined later", r, line(GIVE, 1, 0, 21, 2, 5, 7, NONE, NONE));
        r.mark(ROWMARK, 120);
        r.change(0, 0, 21, 8);
        dueOuts("the row that went is not corrected", r, line(TAKE, 1, 0, 21, 2, 5, 7, NONE, NONE),
                line(GIVE, 1, 0, 21, 2, 21, 8, NONE, NONE));
        r.mark(ROWMARK, 121);
        r.change(0, 0, 22, 9);
        dueOuts("all rows went", r);
        due("gives", r.count(5), 4);
        due("takes", r.count(6), 2);
    }

    private static void correctionsBySide(int side) {
        Run r = made(1, side, 1, 0, 1_000);
        r.mark(0, 100);
        r.row(0, 50, 1);
        r.change(0, 0, 51 - side, 1);
        dueOuts("the first FROM that does not count", r);
        r.change(0, 0, 50 - side, 2);
        dueOuts("the last FROM that counts", r, line(TAKE, 0, 0, 50, 1, NONE, NONE),
                line(GIVE, 0, 0, 50, 1, 50 - side, 2));
        r.change(0, 0, 49 - side, 3);
        dueOuts("a FROM ahead of that which the row has", r);
        r.change(0, 1, 50 - side, 4);
        dueOuts("another key", r);
    }

    private static void anotherJoin() {
        Run r = made(1, 0, 1, 0, 1_000);
        r.mark(0, 100);
        r.row(0, 50, 1);
        r.change(0, 0, 10, GONE);
        dueOuts("none, and none now", r);
        r.change(0, 0, 20, 5);
        dueOuts("none, and one now", r, line(TAKE, 0, 0, 50, 1, NONE, NONE), line(GIVE, 0, 0, 50, 1, 20, 5));
        r.change(0, 0, 20, 5);
        dueOuts("the same", r);
        r.change(0, 0, 20, 6);
        dueOuts("another VALUE", r, line(TAKE, 0, 0, 50, 1, 20, 5), line(GIVE, 0, 0, 50, 1, 20, 6));
        r.change(0, 0, 30, 6);
        dueOuts("another FROM", r, line(TAKE, 0, 0, 50, 1, 20, 6), line(GIVE, 0, 0, 50, 1, 30, 6));
        r.change(0, 0, 40, GONE);
        dueOuts("none now", r, line(TAKE, 0, 0, 50, 1, 30, 6), line(GIVE, 0, 0, 50, 1, NONE, NONE));
        r.change(0, 0, 45, GONE);
        dueOuts("another that is GONE", r);
        r.change(0, 0, 20, 7);
        dueOuts("behind it another is GONE", r);
        r.change(0, 0, 45, 0);
        dueOuts("the VALUE 0 is one", r, line(TAKE, 0, 0, 50, 1, NONE, NONE), line(GIVE, 0, 0, 50, 1, 45, 0));
        r.change(0, 0, 45, GONE);
        dueOuts("GONE in its place", r, line(TAKE, 0, 0, 50, 1, 45, 0), line(GIVE, 0, 0, 50, 1, NONE, NONE));
        due("gives", r.count(5), 7);
        due("takes", r.count(6), 6);
    }

    private static void oneTableAtLeast() {
        for (int t = 0; t < 3; t++) {
            Run r = made(3, 0, 1, 0, 1_000);
            for (int u = 0; u < 3; u++) {
                r.change(u, 0, 10 + u, 100 + u);
                r.mark(u, 100);
            }
            r.row(0, 50, 1);
            int[] was = {TAKE, 0, 0, 50, 1, 10, 100, 11, 101, 12, 102};
            int[] now = was.clone();
            now[0] = GIVE;
            now[5 + 2 * t] = 20;
            now[6 + 2 * t] = 200;
            r.change(t, 0, 20, 200);
            dueOuts("table " + t, r, was, now);
        }
    }

    private static void takesAndGivesOfInner() {
        Run r = made(2, 0, 1, 1, 1_000);
        r.mark(0, 100);
        r.mark(1, 100);
        r.row(0, 50, 1);
        r.change(0, 0, 10, 1);
        dueOuts("not GIVEN, nor now", r);
        r.change(0, 0, 10, 2);
        dueOuts("not GIVEN, nor now, with another VALUE", r);
        r.change(1, 0, 20, 3);
        dueOuts("not GIVEN, but now", r, line(GIVE, 0, 0, 50, 1, 10, 2, 20, 3));
        dueRows("GIVEN", r, line(0, 0, 50, 1, 0, 1));
        r.change(1, 0, 30, 4);
        dueOuts("GIVEN, and now", r, line(TAKE, 0, 0, 50, 1, 10, 2, 20, 3), line(GIVE, 0, 0, 50, 1, 10, 2, 30, 4));
        r.change(0, 0, 50, GONE);
        dueOuts("GIVEN, not now", r, line(TAKE, 0, 0, 50, 1, 10, 2, 30, 4));
        dueRows("not GIVEN by the JOIN of now", r, line(0, 0, 50, 1, 0, 0));
        r.change(0, 0, 50, 0);
        dueOuts("and again", r, line(GIVE, 0, 0, 50, 1, 50, 0, 30, 4));
        due("gives", r.count(5), 3);
        due("takes", r.count(6), 2);
    }

    private static void correctionsInOrder() {
        Run r = made(1, 0, 1, 0, 1_000);
        r.mark(0, 100);
        r.row(2, 30, 300);
        r.row(2, 10, 100);
        r.row(1, 20, 999);
        r.row(2, 20, 200);
        r.row(2, 10, 101);
        r.row(2, 9, 90);
        r.change(0, 2, 10, 5);
        dueOuts("by TIME, then by number; each TAKE ahead of its GIVE", r,
                line(TAKE, 1, 2, 10, 100, NONE, NONE), line(GIVE, 1, 2, 10, 100, 10, 5),
                line(TAKE, 4, 2, 10, 101, NONE, NONE), line(GIVE, 4, 2, 10, 101, 10, 5),
                line(TAKE, 3, 2, 20, 200, NONE, NONE), line(GIVE, 3, 2, 20, 200, 10, 5),
                line(TAKE, 0, 2, 30, 300, NONE, NONE), line(GIVE, 0, 2, 30, 300, 10, 5));
        r.change(0, 2, 20, 6);
        due("those from 20 on", r.out(-1, 0), 4);
        due("first", r.out(0, 1), 3);
        due("last", r.out(3, 1), 0);
    }

    private static void correctionsOfAllRows() {
        Run r = made(3, 0, 1, 0, 1_000);
        for (int t = 0; t < 3; t++) {
            r.mark(t, 1_000);
        }
        for (int n = 0; n < 96; n++) {
            due("row", r.row(0, 96 - n, n), n);
        }
        due("change", r.change(2, 0, 1, 5), 1);
        due("a TAKE and a GIVE of each", r.out(-1, 0), 192);
        for (int n = 0; n < 96; n++) {
            due("TAKE", r.out(2 * n, 0), TAKE);
            due("its row", r.out(2 * n, 1), 95 - n);
            due("GIVE", r.out(2 * n + 1, 0), GIVE);
            due("its row", r.out(2 * n + 1, 1), 95 - n);
            due("FROM that it had", r.out(2 * n, 9), NONE);
            due("FROM of now", r.out(2 * n + 1, 9), 1);
        }
        r.refusesOut(192, 0);
        r.refusesRow(FULL, 0, 500, 1);
    }

    // ---- 2: what goes

    private static void goesBehindEachMark() {
        Run r = made(2, 0, 0, 0, 0);
        r.mark(ROWMARK, 50);
        // These two are above the MARK, so not LATE; the first is needless from the start.
        r.change(0, 1, 10, 1);
        r.change(0, 1, 20, 2);
        due("not behind a change", r.count(1), 2);
        due("row", r.row(1, 60, 1), 0);
        due("not behind a row", r.count(1), 2);
        r.refusesMark(NONE, ROWMARK, 50);
        r.refusesMark(NONE, 0, 0);
        r.refusesMark(BAD, 2, 60);
        r.refusesMark(BAD, 0, 100_001);
        due("behind the mark of the other table", r.mark(1, 1), 0);
        dueVersions("behind the mark of the other table", r, 0, 1, 20, 2);
        due("went", r.count(8), 1);
        r.change(0, 1, 30, 3);
        due("behind the mark of the table", r.mark(0, 1), 0);
        dueVersions("behind the mark of the table", r, 0, 1, 30, 3);
        r.change(0, 1, 40, 4);
        due("behind ROWMARK", r.mark(ROWMARK, 51), 50);
        dueVersions("behind ROWMARK", r, 0, 1, 40, 4);
        due("went", r.count(8), 3);
    }

    private static void joinedRowsGo() {
        int[] keeps = {0, 10, 1_000};
        for (int keep : keeps) {
            Run r = made(1, 0, 0, 0, keep);
            r.mark(0, 5_000);
            r.row(0, 2_001, 1);
            r.row(1, 2_000, 2);
            r.row(2, 1_999, 3);
            r.row(3, 2_000, 4);
            r.mark(ROWMARK, 1_999 + keep);
            dueRows("HORIZON 1,999", r, line(1, 1, 2_000, 2, 0, 1), line(3, 3, 2_000, 4, 0, 1), line(0, 0, 2_001, 1, 0, 1));
            due("went", r.count(7), 1);
            r.mark(ROWMARK, 2_000 + keep);
            dueRows("HORIZON 2,000", r, line(0, 0, 2_001, 1, 0, 1));
            due("went", r.count(7), 3);
            r.mark(ROWMARK, 2_001 + keep);
            dueRows("HORIZON 2,001", r);
            due("went", r.count(7), 4);
            due("came", r.count(4), 4);
            due("nothing went out by it", r.out(-1, 0), 0);
            due("gives", r.count(5), 4);
            due("takes", r.count(6), 0);
        }
    }

    private static void waitingRowsStay() {
        Run r = made(2, 0, 0, 0, 0);
        r.row(0, 10, 1);
        r.row(0, 20, 2);
        r.mark(0, 100_000);
        r.mark(ROWMARK, 100_000);
        dueRows("below HORIZON, but waiting", r, line(0, 0, 10, 1, 1, 0), line(1, 0, 20, 2, 1, 0));
        due("none went", r.count(7), 0);
        r.mark(1, 10);
        dueOuts("joined by this mark", r, line(GIVE, 0, 0, 10, 1, NONE, NONE, NONE, NONE));
        dueRows("and gone by it", r, line(1, 0, 20, 2, 1, 0));
        due("went", r.count(7), 1);
        r.mark(1, 19);
        due("waits", r.count(3), 1);
        r.mark(1, 20);
        dueGives("joined", r, 1);
        due("and gone", r.count(2), 0);
    }

    private static void lastVersionStays() {
        Run r = made(2, 0, 0, 0, 0);
        r.change(0, 3, 10, 1);
        r.change(0, 4, 20, GONE);
        r.change(0, 2, 5, 2);
        r.change(1, 3, 20, 3);
        r.mark(ROWMARK, 100_000);
        due("each is the last of its table and KEY", r.count(1), 4);
        due("none went", r.count(8), 0);
        dueVersions("GONE or not", r, 0, 4, 20, GONE);
        r.change(0, 3, 9, 1);
        r.change(0, 3, 11, GONE);
        r.mark(0, 1);
        dueVersions("the last of three", r, 0, 3, 11, GONE);
        due("two went", r.count(8), 2);
        due("versions", r.count(1), 4);
    }

    private static void versionsGoByTheHorizon(int side) {
        int[] keeps = {0, 7, 1_000};
        for (int keep : keeps) {
            Run r = made(1, side, 0, 0, keep);
            r.change(0, 1, 1_005, 1);
            r.change(0, 1, 1_010, 2);
            r.change(0, 1, 1_011, 3);
            r.change(0, 1, 1_020, 4);
            // The last time of the version from f, with g next, is g - 1, or g with SIDE 1.
            r.mark(ROWMARK, 1_008 + side + keep);
            due("a time above HORIZON has it", r.count(8), 0);
            r.mark(ROWMARK, 1_009 + side + keep);
            dueVersions("none has it", r, 0, 1, 1_010, 2, 1_011, 3, 1_020, 4);
            r.mark(ROWMARK, 1_010 + side + keep);
            dueVersions("one that holds for a time alone", r, 0, 1, 1_011, 3, 1_020, 4);
            r.mark(ROWMARK, 1_018 + side + keep);
            due("a time above HORIZON has it", r.count(8), 2);
            r.mark(ROWMARK, 1_019 + side + keep);
            dueVersions("none has it", r, 0, 1, 1_020, 4);
            due("went", r.count(8), 3);
        }
    }

    private static void versionsGoAtTheLastTime(int side) {
        Run r = made(1, side, 0, 0, 0);
        r.change(0, 1, 99_998, 1);
        r.change(0, 1, 99_999, 2);
        r.change(0, 1, 100_000, 3);
        r.mark(ROWMARK, 99_998);
        due("HORIZON 99,998", r.count(8), 1 - side);
        r.mark(ROWMARK, 99_999);
        due("HORIZON 99,999", r.count(8), 2 - side);
        r.mark(ROWMARK, 100_000);
        due("HORIZON 100,000", r.count(8), 2);
        dueVersions("the last stays", r, 0, 1, 100_000, 3);
    }

    private static void versionsGoAtTheFirstTime(int side) {
        Run r = made(1, side, 0, 0, 1_000);
        r.change(0, 1, 1, 1);
        r.change(0, 1, 2, 2);
        r.change(0, 1, 3, 3);
        r.mark(ROWMARK, 999);
        due("HORIZON - 1", r.count(8), 0);
        r.mark(ROWMARK, 1_000);
        due("HORIZON 0", r.count(8), 0);
        r.mark(ROWMARK, 1_001);
        due("HORIZON 1", r.count(8), 1 - side);
        r.mark(ROWMARK, 1_002);
        due("HORIZON 2", r.count(8), 2 - side);
        r.mark(ROWMARK, 1_003);
        due("HORIZON 3", r.count(8), 2);
    }

    private static void waitingRowsKeepVersions(int side) {
        // The version from 20 holds for the times 20 .. 29, or 21 .. 30 with SIDE 1.
        int[] times = {19 + side, 20 + side, 29 + side, 30 + side};
        int[] kept = {10, 20, 20, 0};
        for (int n = 0; n < times.length; n++) {
            Run r = made(2, side, 0, 0, 0);
            r.change(0, 1, 10, 1);
            r.change(0, 1, 20, 2);
            r.change(0, 1, 30, 3);
            r.change(0, 2, 20, 4);
            r.change(0, 2, 30, 5);
            r.row(1, times[n], 6);
            r.mark(ROWMARK, 60);
            if (kept[n] == 0) {
                dueVersions("the row has the last", r, 0, 1, 30, 3);
            } else {
                dueVersions("the row has " + kept[n], r, 0, 1, kept[n], kept[n] / 10, 30, 3);
            }
            dueVersions("it has another KEY", r, 0, 2, 30, 5);
            int went = r.count(8);
            r.mark(0, 60);
            due("it waits for the other table", r.count(8), went);
            r.mark(1, times[n]);
            int from = kept[n] == 0 ? 30 : kept[n];
            dueOuts("joined by this mark", r, line(GIVE, 0, 1, times[n], 6, from, from / 10, NONE, NONE));
            dueVersions("the version goes by the same", r, 0, 1, 30, 3);
            due("went", r.count(8), 3);
        }
    }

    private static void rowsOfAllTablesKeepVersions() {
        Run r = made(3, 0, 0, 0, 0);
        for (int t = 0; t < 3; t++) {
            r.change(t, 1, 10, 1);
            r.change(t, 1, 20, 2);
        }
        r.row(1, 15, 1);
        r.mark(0, 50);
        r.mark(1, 50);
        r.mark(ROWMARK, 50);
        due("the row waits for table 2, and has versions of all", r.count(1), 6);
        r.mark(2, 14);
        due("still", r.count(1), 6);
        r.mark(2, 15);
        due("joined", r.out(-1, 0), 1);
        due("all that were kept go", r.count(1), 3);
    }

    private static void joinedRowsKeepNoVersions() {
        Run r = made(1, 0, 1, 0, 10);
        r.change(0, 1, 10, 1);
        r.change(0, 1, 20, 2);
        r.mark(0, 50);
        r.row(1, 19, 1);
        r.mark(ROWMARK, 28);
        due("19 is above HORIZON", r.count(1), 2);
        due("and so is the row", r.count(2), 1);
        r.mark(ROWMARK, 29);
        due("19 is not", r.count(1), 1);
        due("nor is the row", r.count(2), 0);
    }

    private static void goneVersionsGo(int side) {
        Run r = made(1, side, 0, 0, 0);
        r.change(0, 1, 10, GONE);
        r.change(0, 1, 20, GONE);
        r.change(0, 1, 30, GONE);
        r.row(1, 20 + side, 1);
        r.mark(ROWMARK, 60);
        dueVersions("a row waits for one that is GONE", r, 0, 1, 20, GONE, 30, GONE);
        r.mark(0, 60);
        dueOuts("joined with none", r, line(GIVE, 0, 1, 20 + side, 1, NONE, NONE));
        dueVersions("then it goes", r, 0, 1, 30, GONE);
        due("went", r.count(8), 2);
        r.refusesAsOf(NONE, 0, 1, 100_000);
    }

    private static void manyVersionsGoAtOnce() {
        Run r = made(2, 0, 0, 0, 0);
        for (int n = 0; n < 80; n++) {
            due("change", r.change(0, 0, 1 + n, n), n + 1);
            due("change", r.change(1, 15, 100_000 - n, n), n + 1);
        }
        r.mark(ROWMARK, 79);
        due("all but the last of one KEY", r.count(8), 79);
        dueVersions("one stays", r, 0, 0, 80, 79);
        due("none of the other", r.version(1, 15, 79, 0), 100_000);
        r.mark(ROWMARK, 99_999);
        due("all but the last", r.count(8), 158);
        dueVersions("one stays", r, 1, 15, 100_000, 0);
        due("versions", r.count(1), 2);
    }

    // ---- promises 1 to 3

    private static void emptyObject() {
        Run r = new Run();
        for (int what = 0; what <= 17; what++) {
            due("count(" + what + ")", r.count(what), what >= 11 && what <= 13 ? NONE : 0);
        }
        due("out(-1, 0)", r.out(-1, 0), 0);
        r.refusesOut(0, 0);
        r.refusesThere(0, 0);
        r.refusesVersion(0, 0, 0, 0);
        r.refusesAsOf(BAD, 0, 0, 1);
        r.refusesChange(BAD, 0, 0, 1, 1);
        r.refusesRow(BAD, 0, 1, 1);
        r.refusesMark(BAD, 0, 1);
        r.refusesMark(NONE, ROWMARK, 0);
        r.refusesCount(-1);
        r.refusesCount(18);
        for (int what = 0; what < 4; what++) {
            due("rule(" + what + ", 0)", r.rule(what, 0), 0);
        }
        due("table()", r.table(), 0);
        due("a new object has none of it", new AsOfJoins().count(0), 0);
    }

    private static void threeTables() {
        Run r = new Run();
        for (int t = 0; t < 3; t++) {
            due("TABLES", r.count(0), t);
            due("MARK of a table to be", r.count(11 + t), NONE);
            due("table()", r.table(), t);
            due("MARK of a new table", r.count(11 + t), 0);
        }
        r.refusesTable(FULL);
        r.refusesTable(FULL);
        due("TABLES", r.count(0), 3);
        due("the third is of use", r.change(2, 0, 1, 1), 1);
    }

    /** Calls that are not done, on an object with one table, in all kinds that there are ahead of the first one done. */
    private static void refuseAll(Run r) {
        r.refusesChange(BAD, 0, 16, 1, 1);
        r.refusesChange(BAD, 0, 0, 0, 1);
        r.refusesChange(BAD, 1, 0, 1, 1);
        r.refusesChange(BAD, 0, 0, 1, 1_001);
        r.refusesRow(BAD, 16, 1, 1);
        r.refusesRow(BAD, 0, 0, 1);
        r.refusesRow(BAD, 0, 1, -1);
        r.refusesMark(BAD, 1, 1);
        r.refusesMark(BAD, 0, 100_001);
        r.refusesMark(NONE, 0, 0);
        r.refusesMark(NONE, ROWMARK, 0);
    }

    private static void turnOfTables() {
        List<ToIntFunction<AsOfJoins>> calls = List.of(x -> x.change(0, 0, 1, GONE), x -> x.row(0, 1, 0),
                x -> x.mark(0, 1), x -> x.mark(-1, 1));
        for (ToIntFunction<AsOfJoins> call : calls) {
            Run r = new Run();
            due("table()", r.table(), 0);
            refuseAll(r);
            due("a call that is not done does not count", r.call(AsOfJoins::table), 1);
            r = new Run();
            due("table()", r.table(), 0);
            due("looking does not count", r.asOf(0, 0, 1), NONE);
            due("table()", r.table(), 1);
            r.does(call);
            r.refusesTable(TURN);
            due("TABLES", r.count(0), 2);
            due("MARK of the third", r.count(13), NONE);
        }
    }

    private static void ruleRanges() {
        for (int what = 0; what < 4; what++) {
            int most = what == KEEP ? 1_000 : 1;
            Run r = new Run();
            r.refusesRule(BAD, what, -1);
            r.refusesRule(BAD, what, most + 1);
            due("rule, most", r.rule(what, most), 0);
            r.refusesRule(BAD, what, -1);
            r.refusesRule(BAD, what, most + 1);
            for (int far : FAR) {
                r.refusesRule(BAD, what, far);
            }
            for (int other = 0; other < 4; other++) {
                due("rule " + other, r.count(14 + other), other == what ? most : 0);
            }
            due("what it was, the same again", r.rule(what, most), most);
            due("what it was", r.rule(what, 0), most);
            due("what it was", r.rule(what, 0), 0);
            due("rule " + what, r.count(14 + what), 0);
        }
        Run r = new Run();
        r.rule(KEEP, 999);
        due("a KEEP between", r.rule(KEEP, 1), 999);
        due("a KEEP between", r.count(17), 1);
    }

    private static void noSuchRule() {
        Run r = made(1, 1, 1, 1, 1_000);
        r.refusesRule(BAD, -1, 0);
        r.refusesRule(BAD, 4, 0);
        r.refusesRule(BAD, -1, 1);
        r.refusesRule(BAD, 4, 1);
        for (int far : FAR) {
            r.refusesRule(BAD, far, 0);
        }
    }

    private static void turnOfRules() {
        List<ToIntFunction<AsOfJoins>> calls = List.of(x -> x.change(0, 0, 1, GONE), x -> x.row(0, 1, 0),
                x -> x.mark(0, 1), x -> x.mark(-1, 1));
        for (ToIntFunction<AsOfJoins> call : calls) {
            Run r = new Run();
            r.table();
            refuseAll(r);
            for (int what = 0; what < 4; what++) {
                due("rule " + what + " ahead of it", r.rule(what, 1), 0);
            }
            r.does(call);
            for (int what = 0; what < 4; what++) {
                r.refusesRule(TURN, what, 0);
                r.refusesRule(TURN, what, 1);
            }
        }
    }

    // ---- promises 4 to 6

    private static void howManyTheKeyHas() {
        Run r = made(2, 0, 0, 0, 0);
        due("first", r.change(0, 0, 10, 1), 1);
        due("other KEY", r.change(0, 1, 10, 1), 1);
        due("other table", r.change(1, 0, 10, 1), 1);
        due("second", r.change(0, 0, 20, GONE), 2);
        due("third", r.change(0, 0, 5, 1), 3);
        due("in place", r.change(0, 0, 5, 2), 3);
        r.mark(ROWMARK, 19);
        due("two went", r.count(8), 2);
        due("those that are there", r.change(0, 0, 30, 1), 2);
    }

    private static void fullOfVersions() {
        for (int spread = 0; spread < 2; spread++) {
            Run r = made(3, 0, 1, 0, 0);
            for (int n = 0; n < 160; n++) {
                due("version " + n, r.change(spread * (n % 3), spread * (n % 16), 1_000 - n, n), spread == 0 ? n + 1 : 1 + n / 48);
            }
            due("160 are there", r.count(1), 160);
            r.refusesChange(FULL, 0, 0, 2_000, 1);
            r.refusesChange(FULL, 2, 15, 1, GONE);
            r.refusesChange(BAD, 0, 16, 1, 1);
            due("a row comes all the same", r.row(0, 1_000, 1), 0);
            r.mark(1, 1_000);
            r.mark(2, 1_000);
            r.mark(0, 1_000);
            dueOuts("the JOIN of a full object", r, spread == 0
                    ? line(GIVE, 0, 0, 1_000, 1, 1_000, 0, NONE, NONE, NONE, NONE)
                    : line(GIVE, 0, 0, 1_000, 1, 1_000, 0, 984, 16, 968, 32));
            r.refusesChange(FULL, 0, 0, 999, 1);
            r.mark(ROWMARK, 841);
            due("one went", r.count(1), spread == 0 ? 159 : 160);
            r.mark(ROWMARK, 999);
            int there = r.count(1);
            due("others went", r.count(8), 160 - there);
            due("there is room", r.change(0, 5, 2_000, 1) > 0 ? 1 : 0, 1);
            due("one more is there", r.count(1), there + 1);
        }
        Run r = made(1, 0, 0, 0, 0);
        for (int n = 0; n < 160; n++) {
            due("version " + n, r.change(0, 0, 1 + n, 1), n + 1);
        }
        r.refusesChange(FULL, 0, 0, 161, 1);
        r.mark(ROWMARK, 1);
        due("159 are there", r.change(0, 0, 161, 1), 160);
        r.refusesChange(FULL, 0, 0, 162, 1);
    }

    private static void rowWithoutTable() {
        Run r = new Run();
        r.refusesRow(BAD, 0, 1, 0);
        r.refusesRow(BAD, 15, 100_000, 1_000);
        due("a TABLE", r.table(), 0);
        due("row", r.row(15, 100_000, 1_000), 0);
    }

    private static void fullOfRows() {
        for (int joined = 0; joined < 2; joined++) {
            Run r = made(1, 0, 0, 0, 0);
            if (joined == 1) {
                r.mark(0, 1_000);
            }
            for (int n = 0; n < 96; n++) {
                due("row " + n, r.row(n % 16, 10 + n / 2, n), n);
            }
            due("96 are there", r.count(2), 96);
            due("waiting", r.count(3), 96 - 96 * joined);
            r.refusesRow(FULL, 0, 500, 1);
            r.refusesRow(FULL, 0, 1, 1);
            r.refusesRow(BAD, 0, 0, 1);
            due("a change comes all the same", r.change(0, 0, 2_000, 1), 1);
            if (joined == 0) {
                r.mark(0, 1_000);
                due("all are joined", r.out(-1, 0), 96);
                due("and there", r.count(2), 96);
                r.refusesRow(FULL, 0, 500, 1);
            }
            r.mark(ROWMARK, 10);
            due("two went", r.count(2), 94);
            due("room for two", r.row(0, 500, 1), 96);
            due("room for one", r.row(0, 500, 1), 97);
            r.refusesRow(FULL, 0, 500, 1);
            due("came", r.count(4), 98);
        }
    }

    private static void fullOfBoth() {
        Run r = made(3, 0, 1, 0, 1_000);
        for (int n = 0; n < 160; n++) {
            r.change(n % 3, n % 16, 100 + n, n);
        }
        for (int n = 0; n < 96; n++) {
            due("row " + n, r.row(n % 16, 200 + n, n), n);
        }
        r.refusesChange(FULL, 2, 15, 99, 1);
        r.refusesRow(FULL, 15, 99, 1);
        r.mark(0, 300);
        r.mark(1, 300);
        r.mark(2, 300);
        due("all went out", r.out(-1, 0), 96);
        due("the last row's KEY", r.out(95, 2), 15);
        r.refusesChange(FULL, 2, 15, 99, 1);
        r.refusesRow(FULL, 15, 99, 1);
        r.mark(ROWMARK, 100_000);
        due("all rows went", r.count(7), 96);
        due("one version of each table and KEY is there", r.count(1), 48);
        due("the others went", r.count(8), 112);
        r.refusesRow(LATE, 0, 100_000, 1);
        due("room for versions", r.change(0, 0, 99_999, 1), 2);
    }

    private static void marks() {
        Run r = made(2, 0, 0, 0, 0);
        int[] noTime = {-1, 100_001};
        for (int t = -1; t < 2; t++) {
            for (int time : noTime) {
                r.refusesMark(BAD, t, time);
            }
            for (int far : FAR) {
                r.refusesMark(BAD, t, far);
            }
            r.refusesMark(NONE, t, 0);
        }
        due("ROWMARK 1", r.mark(ROWMARK, 1), 0);
        due("MARK 1 of table 0", r.mark(0, 1), 0);
        due("MARK 1 of table 1", r.mark(1, 1), 0);
        due("ROWMARK 100,000", r.mark(ROWMARK, 100_000), 1);
        due("MARK 99,999", r.mark(0, 99_999), 1);
        due("MARK 100,000", r.mark(0, 100_000), 99_999);
        due("ROWMARK", r.count(10), 100_000);
        due("MARK of table 0", r.count(11), 100_000);
        due("MARK of table 1", r.count(12), 1);
        due("MARK of table 2", r.count(13), NONE);
    }

    // ---- promises 7 to 11

    private static void outEdges() {
        for (int tables = 1; tables <= 3; tables++) {
            Run r = made(tables, 0, 0, 0, 0);
            for (int far : FAR) {
                due("out(-1, far) of the empty", r.out(-1, far), 0);
            }
            r.row(3, 10, 30);
            r.row(4, 10, 40);
            for (int t = 0; t < tables; t++) {
                r.change(t, 3, 10, 900 + t);
                r.mark(t, 10);
            }
            due("FROM of the last table", r.out(0, 3 + 2 * tables), 10);
            due("VALUE of the last table", r.out(0, 4 + 2 * tables), 899 + tables);
            due("NONE", r.out(1, 3 + 2 * tables), NONE);
            due("NONE", r.out(1, 4 + 2 * tables), NONE);
            for (int i = 0; i < 2; i++) {
                r.refusesOut(i, -1);
                r.refusesOut(i, 5 + 2 * tables);
                r.refusesOut(i, 6 + 2 * tables);
                r.refusesOut(i, 11);
                for (int far : FAR) {
                    r.refusesOut(i, far);
                }
            }
            r.refusesOut(2, 0);
            r.refusesOut(-2, 0);
            for (int far : FAR) {
                r.refusesOut(far, 0);
                due("out(-1, whatever)", r.out(-1, far), 2);
            }
            due("out(-1, -1)", r.out(-1, -1), 2);
        }
    }

    private static void latestCallThatWasDone() {
        Run r = made(1, 0, 1, 0, 5);
        r.mark(0, 50);
        r.row(0, 20, 1);
        dueGives("by a row", r, 0);
        r.refusesRow(BAD, 0, 0, 1);
        r.refusesChange(BAD, 0, 0, 0, 1);
        r.refusesMark(NONE, 0, 50);
        r.refusesMark(BAD, 0, -1);
        r.refusesTable(TURN);
        r.refusesRule(TURN, SIDE, 1);
        dueGives("refused calls leave it", r, 0);
        r.change(0, 0, 30, 1);
        dueGives("a change by which nothing goes out", r);
        r.row(0, 21, 1);
        dueGives("by a row", r, 1);
        r.mark(ROWMARK, 10);
        dueGives("a mark by which nothing goes out", r);
        r.row(0, 22, 1);
        r.refusesRow(LATE, 0, 10, 1);
        r.refusesChange(LATE, 0, 0, 5, 1);
        dueGives("LATE ones leave it", r, 2);
        r.row(0, 51, 1);
        dueGives("a row that waits", r);
        r.mark(0, 51);
        dueGives("by a mark", r, 3);
        due("gives in all", r.count(5), 4);
    }

    private static void outIsWhatWentOut() {
        Run r = made(1, 0, 1, 0, 0);
        r.change(0, 0, 10, 5);
        r.change(0, 0, 40, 6);
        r.mark(ROWMARK, 1);
        r.row(0, 10, 1);
        r.mark(ROWMARK, 30);
        r.mark(0, 30);
        due("the row went", r.count(2), 0);
        dueOuts("its GIVE is told all the same", r, line(GIVE, 0, 0, 10, 1, 10, 5));
    }

    private static void versionEdges() {
        Run r = made(2, 0, 0, 0, 0);
        r.refusesVersion(0, 0, 0, 0);
        r.change(0, 7, 10, 1);
        r.change(0, 7, 20, 2);
        r.change(0, 6, 15, 3);
        r.change(0, 8, 15, 4);
        r.change(1, 7, 15, 5);
        dueVersions("by FROM", r, 0, 7, 10, 1, 20, 2);
        r.refusesVersion(0, 7, -1, 0);
        r.refusesVersion(0, 7, 2, 0);
        r.refusesVersion(0, 7, 2, 1);
        r.refusesVersion(0, 7, 0, -1);
        r.refusesVersion(0, 7, 0, 2);
        r.refusesVersion(0, 9, 0, 0);
        r.refusesVersion(0, 15, 0, 0);
        for (int far : FAR) {
            r.refusesVersion(0, 7, far, 0);
            r.refusesVersion(0, 7, 0, far);
        }
    }

    private static void thereEdges() {
        Run r = made(1, 0, 0, 1, 0);
        r.refusesThere(0, 0);
        r.refusesThere(-1, 0);
        r.change(0, 2, 20, 1);
        r.row(2, 30, 300);
        r.row(2, 20, 200);
        r.row(2, 19, 190);
        dueRows("waiting ones are not GIVEN", r, line(2, 2, 19, 190, 1, 0), line(1, 2, 20, 200, 1, 0), line(0, 2, 30, 300, 1, 0));
        r.mark(0, 20);
        dueRows("joined", r, line(2, 2, 19, 190, 0, 0), line(1, 2, 20, 200, 0, 1), line(0, 2, 30, 300, 1, 0));
        for (int i = 0; i < 3; i++) {
            r.refusesThere(i, -1);
            r.refusesThere(i, 6);
        }
        r.refusesThere(-1, 0);
        r.refusesThere(3, 0);
        for (int far : FAR) {
            r.refusesThere(far, 0);
            r.refusesThere(0, far);
        }
        r.mark(ROWMARK, 19);
        dueRows("one went", r, line(1, 2, 20, 200, 0, 1), line(0, 2, 30, 300, 1, 0));
        r.mark(0, 30);
        r.mark(ROWMARK, 30);
        dueRows("all went", r);
        r.row(3, 40, 400);
        r.row(3, 31, 310);
        dueRows("waiting ones have nothing of those that went", r, line(4, 3, 31, 310, 1, 0), line(3, 3, 40, 400, 1, 0));
    }

    private static void countEdges() {
        Run r = made(1, 1, 1, 1, 1_000);
        due("SIDE", r.count(14), 1);
        due("LATES", r.count(15), 1);
        due("INNER", r.count(16), 1);
        due("the last, KEEP", r.count(17), 1_000);
        due("the first, TABLES", r.count(0), 1);
        due("MARK", r.count(11), 0);
        due("no such table", r.count(12), NONE);
        due("no such table", r.count(13), NONE);
        r.refusesCount(-1);
        r.refusesCount(18);
        r.refusesCount(19);
        for (int far : FAR) {
            r.refusesCount(far);
        }
    }

    private static void lateAnswers() {
        Run r = made(1, 0, 0, 0, 0);
        r.mark(0, 10);
        r.mark(ROWMARK, 20);
        due("none", r.count(9), 0);
        r.refusesChange(LATE, 0, 0, 10, 1);
        due("a change", r.count(9), 1);
        r.refusesRow(LATE, 0, 20, 1);
        due("a row", r.count(9), 2);
        r.refusesChange(BAD, 0, 0, 0, 1);
        r.refusesRow(BAD, 0, 0, 1);
        r.refusesMark(NONE, 0, 5);
        due("BAD and NONE are not LATE", r.count(9), 2);
        due("change that is done", r.change(0, 0, 11, 1), 1);
        due("row that is done", r.row(0, 21, 1), 0);
        due("late answers", r.count(9), 2);
    }

    /** Each kind of refusal that the run's object has at hand, for an object with two tables that has begun. */
    private static void refuseEachKind(Run r) {
        r.refusesTable(TURN);
        r.refusesRule(TURN, KEEP, 0);
        r.refusesRule(BAD, KEEP, 1_001);
        r.refusesChange(BAD, 2, 1, 40, 1);
        r.refusesChange(BAD, 0, 1, 40, 1_001);
        r.refusesRow(BAD, 1, 40, 1_001);
        r.refusesMark(BAD, 2, 90_000);
        r.refusesMark(BAD, ROWMARK, 100_001);
        int[] tables = {ROWMARK, 0, 1};
        for (int t : tables) {
            r.refusesMark(NONE, t, r.count(11 + (t == ROWMARK ? -1 : t)));
        }
        int rowMark = r.count(10);
        if (rowMark > 0) {
            r.refusesRow(LATE, 1, rowMark, 7);
        }
        for (int t = 0; t < 2; t++) {
            int latest = Math.min(r.count(11 + t), rowMark - r.count(17));
            if (latest > 0) {
                r.refusesChange(LATE, t, 1, latest, 7);
            }
        }
    }

    /** A refused call leaves no trace in what comes later either: the same run without it answers the same. */
    private static void refusedCallsLeaveAll() {
        List<ToIntFunction<AsOfJoins>> calls = List.of(
                x -> x.change(0, 1, 10, 1), x -> x.change(1, 1, 15, 2), x -> x.row(1, 30, 3), x -> x.row(1, 12, 4),
                x -> x.row(2, 70, 5), x -> x.mark(0, 40), x -> x.mark(1, 35), x -> x.change(0, 1, 11, 6),
                x -> x.mark(-1, 21), x -> x.change(1, 1, 12, GONE), x -> x.row(1, 33, 7), x -> x.mark(-1, 25),
                x -> x.change(0, 1, 25, 8), x -> x.change(1, 1, 16, GONE), x -> x.mark(0, 80), x -> x.mark(-1, 50),
                x -> x.change(1, 2, 60, 9), x -> x.mark(1, 80), x -> x.row(1, 60, 1), x -> x.mark(-1, 90));
        Run plain = made(2, 0, 1, 1, 10);
        Run other = made(2, 0, 1, 1, 10);
        int lates = 0;
        for (int n = 0; n < calls.size(); n++) {
            due("call " + n, other.does(calls.get(n)), plain.does(calls.get(n)));
            List<Integer> due = plain.state();
            due.set(9, lates);
            if (!other.state().equals(due)) {
                fail("behind call " + n + " there is " + other.state() + ", due is " + due);
            }
            refuseEachKind(other);
            lates = other.count(9);
        }
        due("LATE answers of the plain run", plain.count(9), 0);
        due("gives", plain.count(5) > 3 ? 1 : 0, 1);
        due("takes", plain.count(6) > 1 ? 1 : 0, 1);
        due("rows that went", plain.count(7), 5);
    }

    public static void main(String[] args) {
        test("at most 512 calls after it has been made", BoundaryTests::allCallsOfAnObject);
        test("1 TABLES 0 ..", BoundaryTests::tableNumbers);
        test("KEYS 0 .. 15", BoundaryTests::keys);
        test("KEYS beyond 0 .. 15 are not those of another table", BoundaryTests::keysOfNeighbours);
        test("TIMES 1 .. 100,000", BoundaryTests::times);
        test("a VALUE, 0 .. 1,000, or GONE (- 1)", BoundaryTests::values);
        test("a FROM that is not above it (if SIDE is 0", BoundaryTests::notAboveTheTime);
        test("below it, if SIDE is 1)", BoundaryTests::belowTheTime);
        test("the one with the greatest FROM", BoundaryTests::greatestFrom);
        test("none, if there is none", BoundaryTests::noVersion);
        test("or it is GONE", BoundaryTests::goneVersion);
        test("a number (0, 1, .. as they came)", BoundaryTests::numbersOfRows);
        test("for each table the FROM and VALUE of the VERSION AS OF its TIME, or none", BoundaryTests::joinOfEachTable);
        test("It is GIVEN, if INNER is 0", BoundaryTests::givenWithoutInner);
        test("or if it has one of each table", BoundaryTests::givenWithInner);
        test("all are 0 at first and never fall", BoundaryTests::marksNeverFall);
        test("HORIZON is ROWMARK less KEEP", BoundaryTests::horizonIsRowmarkLessKeep);

        test("in place of that with the same FROM of its table and KEY", BoundaryTests::inPlaceOfTheSameFrom);
        test("LATE, if FROM is not above the MARK of its table, and besides LATES is 0", BoundaryTests::lateByTheMark);
        test("or FROM is not above HORIZON", BoundaryTests::lateByTheHorizon);
        test("(which may be below 0)", BoundaryTests::horizonBelowZero);
        test("one that is above its table's MARK never is", BoundaryTests::neverLateAboveTheMark);
        test("A ROW is LATE, if its TIME is not above ROWMARK", BoundaryTests::lateRows);
        test("A ROW WAITS, till the MARKS of all tables are at least its TIME", BoundaryTests::rowsWaitForAllTables);
        test("are so at once, behind the call by which they can", BoundaryTests::joinedAtOnce);
        test("in ORDER: by TIME, then by number", BoundaryTests::order);
        test("If a ROW is GIVEN, a GIVE goes out", BoundaryTests::noGiveIfNotGiven);

        test("each ROW that was JOINED, and is there still", BoundaryTests::correctionsOfJoinedRows);
        test("of which the JOIN is another one now", BoundaryTests::anotherJoin);
        test("in one table at least", BoundaryTests::oneTableAtLeast);
        test("a TAKE, if it was GIVEN, and a GIVE, if it is GIVEN by that", BoundaryTests::takesAndGivesOfInner);
        test("CORRECTIONS in ORDER", BoundaryTests::correctionsInOrder);
        test("CORRECTIONS of 96 ROWS", BoundaryTests::correctionsOfAllRows);

        test("behind each mark() that was done", BoundaryTests::goesBehindEachMark);
        test("ROWS that were JOINED with a TIME not above HORIZON", BoundaryTests::joinedRowsGo);
        test("(when all is JOINED that can be)", BoundaryTests::waitingRowsStay);
        test("VERSIONS behind which there is one with the next FROM", BoundaryTests::lastVersionStays);
        for (int s = 0; s < 2; s++) {
            int side = s;
            test("CORRECTIONS with SIDE " + side, () -> correctionsBySide(side));
            test("no TIME above HORIZON, with SIDE " + side, () -> versionsGoByTheHorizon(side));
            test("HORIZON at the last TIME, with SIDE " + side, () -> versionsGoAtTheLastTime(side));
            test("HORIZON at the first TIME, with SIDE " + side, () -> versionsGoAtTheFirstTime(side));
            test("no TIME of a ROW of this KEY that WAITS, with SIDE " + side, () -> waitingRowsKeepVersions(side));
            test("(GONE or not), with SIDE " + side, () -> goneVersionsGo(side));
        }
        test("a ROW that WAITS has VERSIONS of all tables", BoundaryTests::rowsOfAllTablesKeepVersions);
        test("ROWS go, then VERSIONS", BoundaryTests::joinedRowsKeepNoVersions);
        test("many VERSIONS go at once", BoundaryTests::manyVersionsGoAtOnce);

        test("1: No TABLES, SIDE 0, LATES 0, INNER 0, KEEP 0; nothing went out", BoundaryTests::emptyObject);
        test("2: FULL: 3", BoundaryTests::threeTables);
        test("2: TURN: a CHANGE, ROW or mark() was done already", BoundaryTests::turnOfTables);
        test("3: SIDE (0, 1), LATES (0, 1), INNER (0, 1), KEEP (0 .. 1,000)", BoundaryTests::ruleRanges);
        test("3: BAD", BoundaryTests::noSuchRule);
        test("3: TURN: as of table()", BoundaryTests::turnOfRules);
        test("4: how many VERSIONS the KEY has there", BoundaryTests::howManyTheKeyHas);
        test("4: FULL: 160 VERSIONS in all are there", BoundaryTests::fullOfVersions);
        test("5: BAD: there is no TABLE", BoundaryTests::rowWithoutTable);
        test("5: FULL: 96 ROWS are there", BoundaryTests::fullOfRows);
        test("4, 5: FULL of VERSIONS and of ROWS", BoundaryTests::fullOfBoth);
        test("6: a TIME (0 .. 100,000); BAD; NONE", BoundaryTests::marks);
        test("7: BAD (also t no table)", BoundaryTests::outEdges);
        test("7: the latest change(), row(), mark() that was done", BoundaryTests::latestCallThatWasDone);
        test("7: what went out is told of a ROW that went", BoundaryTests::outIsWhatWentOut);
        test("9: VERSION i of a table and KEY, by FROM. BAD", BoundaryTests::versionEdges);
        test("10: ROW i that is there, in ORDER. BAD", BoundaryTests::thereEdges);
        test("11: BAD, NONE: no such table", BoundaryTests::countEdges);
        test("11: LATE answers", BoundaryTests::lateAnswers);
        test("NONE: nothing is done, as behind each refused call", BoundaryTests::refusedCallsLeaveAll);

        System.out.println(tests + " tests: " + (wrong == 0 ? "all answers are as due" : wrong + " answers are not as due"));
        if (wrong != 0) {
            System.exit(1);
        }
    }
}
