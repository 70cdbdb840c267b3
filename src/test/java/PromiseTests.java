/** Each promise by hand: ordinary inputs, the edges that the document names, wrong inputs. */
public final class PromiseTests {
    private static final int BAD = -1, NONE = -2, FULL = -3, LATE = -4, TURN = -5;
    private static final int[] WILD = {Integer.MIN_VALUE, -100_001, -3, -2, 18, 100_001, Integer.MAX_VALUE};

    private static int wrong = 0;

    private static void due(String what, int got, int want) {
        if (got != want) {
            wrong++;
            System.out.println(what + " answered " + got + ", due is " + want);
        }
    }

    /** What went out as number i, whole: kind, number, KEY, TIME, VALUE, then FROM and VALUE of each table. */
    private static void dueOut(String what, AsOfJoins x, int i, int... want) {
        for (int c = 0; c < want.length; c++) {
            due(what + ": out(" + i + ", " + c + ")", x.out(i, c), want[c]);
        }
        due(what + ": out(" + i + ", " + want.length + ")", x.out(i, want.length), BAD);
    }

    private static void dueRow(String what, AsOfJoins x, int i, int... want) {
        for (int c = 0; c < want.length; c++) {
            due(what + ": there(" + i + ", " + c + ")", x.there(i, c), want[c]);
        }
    }

    /** The FROMS and VALUES of all versions of a table and key, by turns. */
    private static void dueVersions(String what, AsOfJoins x, int table, int key, int... want) {
        for (int c = 0; c < want.length; c++) {
            due(what + ": version " + c / 2 + ", " + c % 2, x.version(table, key, c / 2, c % 2), want[c]);
        }
        due(what + ": version behind the last", x.version(table, key, want.length / 2, 0), BAD);
    }

    /** An object with tables and the rules SIDE, LATES, INNER, KEEP. */
    private static AsOfJoins made(int tables, int side, int lates, int inner, int keep) {
        AsOfJoins x = new AsOfJoins();
        for (int t = 0; t < tables; t++) {
            due("table", x.table(), t);
        }
        due("SIDE", x.rule(0, side), 0);
        due("LATES", x.rule(1, lates), 0);
        due("INNER", x.rule(2, inner), 0);
        due("KEEP", x.rule(3, keep), 0);
        return x;
    }

    private static void constants() {
        due("BAD", AsOfJoins.BAD, BAD);
        due("NONE", AsOfJoins.NONE, NONE);
        due("FULL", AsOfJoins.FULL, FULL);
        due("LATE", AsOfJoins.LATE, LATE);
        due("TURN", AsOfJoins.TURN, TURN);
    }

    private static void newObject() {
        AsOfJoins x = new AsOfJoins();
        for (int what = 0; what <= 17; what++) {
            due("1: count(" + what + ")", x.count(what), what >= 11 && what <= 13 ? NONE : 0);
        }
        due("1: out", x.out(-1, 0), 0);
        due("1: out(0, 0)", x.out(0, 0), BAD);
        due("1: there", x.there(0, 0), BAD);
        due("1: version", x.version(0, 0, 0, 0), BAD);
        due("1: asOf", x.asOf(0, 0, 1), BAD);
        AsOfJoins other = new AsOfJoins();
        due("1: table of one", x.table(), 0);
        due("1: tables of the other", other.count(0), 0);
    }

    private static void tables() {
        AsOfJoins x = new AsOfJoins();
        for (int t = 0; t < 3; t++) {
            due("2: mark of a table to be", x.count(11 + t), NONE);
            due("2: table", x.table(), t);
            due("2: mark of a new table", x.count(11 + t), 0);
            due("2: tables", x.count(0), t + 1);
        }
        due("2: the fourth", x.table(), FULL);
        due("2: tables", x.count(0), 3);
        x.mark(0, 5);
        due("2: full comes ahead of turn", x.table(), FULL);

        x = made(1, 0, 0, 0, 0);
        due("2: bad change", x.change(0, 16, 1, 1), BAD);
        due("2: bad row", x.row(0, 0, 1), BAD);
        due("2: mark that does nothing", x.mark(-1, 0), NONE);
        due("2: bad mark", x.mark(1, 4), BAD);
        due("2: nothing was done yet", x.table(), 1);
        x.change(0, 0, 1, 1);
        due("2: behind a change", x.table(), TURN);
        due("2: tables", x.count(0), 2);

        x = made(1, 0, 0, 0, 0);
        x.row(0, 1, 1);
        due("2: behind a row", x.table(), TURN);
        x = made(1, 0, 0, 0, 0);
        x.mark(0, 1);
        due("2: behind a mark", x.table(), TURN);
        x = new AsOfJoins();
        due("2: rowmark without tables", x.mark(-1, 1), 0);
        due("2: behind a rowmark", x.table(), TURN);
    }

    private static void rules() {
        AsOfJoins x = new AsOfJoins();
        for (int what = 0; what < 4; what++) {
            int most = what == 3 ? 1_000 : 1;
            due("3: rule", x.rule(what, most), 0);
            due("3: above", x.rule(what, most + 1), BAD);
            due("3: below", x.rule(what, -1), BAD);
            due("3: kept", x.count(14 + what), most);
            due("3: what it was", x.rule(what, 0), most);
            due("3: kept", x.count(14 + what), 0);
        }
        due("3: what 4", x.rule(4, 0), BAD);
        due("3: what -1", x.rule(-1, 0), BAD);
        for (int w : WILD) {
            due("3: wild what", x.rule(w, 0), BAD);
            due("3: wild v", x.rule(0, w), BAD);
        }
        due("3: a KEEP between", x.rule(3, 500), 0);
        x.table();
        x.row(0, 1, 1);
        due("3: behind a row", x.rule(3, 1), TURN);
        due("3: kept", x.count(17), 500);
        due("3: bad comes ahead of turn", x.rule(3, 1_001), BAD);
        x = new AsOfJoins();
        x.table();
        x.change(0, 0, 1, 1);
        due("3: behind a change", x.rule(0, 1), TURN);
        x = new AsOfJoins();
        x.mark(-1, 1);
        due("3: behind a mark", x.rule(0, 1), TURN);
    }

    private static void changesInOrder() {
        AsOfJoins x = made(2, 0, 0, 0, 0);
        due("4: first", x.change(1, 15, 100_000, 1_000), 1);
        due("4: ahead of it", x.change(1, 15, 1, 0), 2);
        due("4: between", x.change(1, 15, 500, -1), 3);
        due("4: other key", x.change(1, 14, 7, 70), 1);
        due("4: other table", x.change(0, 15, 8, 80), 1);
        due("4: in place", x.change(1, 15, 500, 33), 3);
        due("4: versions", x.count(1), 5);
        due("4: none went", x.count(8), 0);
        dueVersions("4", x, 1, 15, 1, 0, 500, 33, 100_000, 1_000);
        dueVersions("4", x, 1, 14, 7, 70);
        dueVersions("4", x, 0, 15, 8, 80);
        dueVersions("4", x, 0, 0);
    }

    private static void changesThatAreBad() {
        AsOfJoins x = made(1, 0, 0, 0, 0);
        due("4: no table", x.change(1, 0, 1, 1), BAD);
        due("4: table -1", x.change(-1, 0, 1, 1), BAD);
        due("4: key", x.change(0, 16, 1, 1), BAD);
        due("4: key -1", x.change(0, -1, 1, 1), BAD);
        due("4: from 0", x.change(0, 0, 0, 1), BAD);
        due("4: from", x.change(0, 0, 100_001, 1), BAD);
        due("4: value", x.change(0, 0, 1, 1_001), BAD);
        due("4: value -2", x.change(0, 0, 1, -2), BAD);
        for (int w : WILD) {
            due("4: wild table", x.change(w, 0, 1, 1), BAD);
            due("4: wild key", x.change(0, w, 1, 1), BAD);
            due("4: wild from", x.change(0, 0, w == 18 ? 0 : w, 1), BAD);
            due("4: wild value", x.change(0, 0, 1, w == 18 ? -2 : w), BAD);
        }
        x.mark(0, 10);
        due("4: bad comes ahead of late", x.change(0, 0, 10, 1_001), BAD);
        due("4: no late answers", x.count(9), 0);
        due("4: versions", x.count(1), 0);
    }

    private static void changesThatAreLate() {
        AsOfJoins x = made(2, 0, 0, 0, 20);
        x.mark(0, 50);
        due("4: at the mark", x.change(0, 0, 50, 1), LATE);
        due("4: above the mark", x.change(0, 0, 51, 1), 1);
        due("4: the other table's mark", x.change(1, 0, 1, 1), 1);
        due("4: late answers", x.count(9), 1);

        x = made(1, 0, 1, 0, 20);
        x.mark(0, 50);
        due("4: HORIZON below 0", x.change(0, 0, 1, 1), 1);
        x.mark(-1, 60);
        due("4: at HORIZON", x.change(0, 0, 40, 1), LATE);
        due("4: above HORIZON", x.change(0, 0, 41, 1), 2);
        x.mark(-1, 90);
        due("4: below HORIZON, above the mark (that of 1 went)", x.change(0, 0, 55, 1), 2);
        due("4: below HORIZON, at the mark", x.change(0, 0, 50, 1), LATE);
        due("4: late answers", x.count(9), 2);
    }

    private static void changesThatAreTooMany() {
        AsOfJoins x = made(3, 0, 1, 0, 0);
        for (int n = 0; n < 160; n++) {
            due("4: one more", x.change(n % 3, n / 3 % 16, 10 + n, n), 1 + n / 48);
        }
        x.mark(2, 5);
        due("4: versions", x.count(1), 160);
        due("4: 160 are there", x.change(0, 0, 500, 1), FULL);
        due("4: 160 are there, with the same FROM", x.change(0, 0, 10, 1), FULL);
        due("4: its value is kept", x.version(0, 0, 0, 1), 0);
        due("4: bad comes ahead of full", x.change(0, 16, 10, 1), BAD);
        x.mark(-1, 4);
        due("4: late comes ahead of full", x.change(2, 0, 4, 1), LATE);
        x.mark(-1, 60);
        due("4: one went", x.count(1) + x.count(8), 160);
        due("4: room again", x.change(0, 5, 500, 1) > 0 ? 1 : 0, 1);
    }

    private static void corrections() {
        AsOfJoins x = made(2, 0, 1, 0, 100);
        x.change(0, 4, 10, 1);
        x.mark(0, 50);
        x.mark(1, 50);
        x.row(4, 30, 300);
        x.row(4, 20, 200);
        x.row(4, 20, 201);
        x.row(5, 20, 555);
        x.row(4, 60, 600);
        due("4: nothing of a waiting row", x.out(-1, 0), 0);
        due("4: correction", x.change(0, 4, 15, 1), 2);
        due("4: went out", x.out(-1, 0), 6);
        dueOut("4", x, 0, 0, 1, 4, 20, 200, 10, 1, NONE, NONE);
        dueOut("4", x, 1, 1, 1, 4, 20, 200, 15, 1, NONE, NONE);
        dueOut("4", x, 2, 0, 2, 4, 20, 201, 10, 1, NONE, NONE);
        dueOut("4", x, 3, 1, 2, 4, 20, 201, 15, 1, NONE, NONE);
        dueOut("4", x, 4, 0, 0, 4, 30, 300, 10, 1, NONE, NONE);
        dueOut("4", x, 5, 1, 0, 4, 30, 300, 15, 1, NONE, NONE);
        due("4: gives", x.count(5), 7);
        due("4: takes", x.count(6), 3);
        x.change(0, 4, 15, 1);
        due("4: the same again", x.out(-1, 0), 0);
        x.change(1, 4, 25, -1);
        due("4: GONE where there was none", x.out(-1, 0), 0);
        x.change(1, 4, 21, 9);
        due("4: behind it all is GONE", x.out(-1, 0), 0);
        x.change(1, 4, 25, 8);
        due("4: another VALUE", x.out(-1, 0), 2);
        dueOut("4", x, 1, 1, 0, 4, 30, 300, 15, 1, 25, 8);
        x.mark(0, 60);
        x.mark(1, 60);
        dueOut("4", x, 0, 1, 4, 4, 60, 600, 15, 1, 25, 8);
    }

    private static void correctionsOfInner() {
        AsOfJoins x = made(2, 0, 1, 1, 100);
        x.mark(0, 50);
        x.mark(1, 50);
        x.row(3, 30, 7);
        due("4: INNER gives nothing", x.out(-1, 0), 0);
        x.change(0, 3, 10, 1);
        due("4: one table of two", x.out(-1, 0), 0);
        dueRow("4", x, 0, 0, 3, 30, 7, 0, 0, BAD);
        x.change(1, 3, 30, 2);
        due("4: a GIVE alone", x.out(-1, 0), 1);
        dueOut("4", x, 0, 1, 0, 3, 30, 7, 10, 1, 30, 2);
        dueRow("4", x, 0, 0, 3, 30, 7, 0, 1, BAD);
        x.change(0, 3, 20, -1);
        due("4: a TAKE alone", x.out(-1, 0), 1);
        dueOut("4", x, 0, 0, 0, 3, 30, 7, 10, 1, 30, 2);
        dueRow("4", x, 0, 0, 3, 30, 7, 0, 0, BAD);
        x.change(1, 3, 30, 3);
        due("4: not given before or now", x.out(-1, 0), 0);
        x.change(0, 3, 20, 4);
        dueOut("4", x, 0, 1, 0, 3, 30, 7, 20, 4, 30, 3);
        due("4: gives", x.count(5), 2);
        due("4: takes", x.count(6), 1);
    }

    private static void manyCorrections() {
        AsOfJoins x = made(3, 0, 1, 0, 1_000);
        for (int t = 0; t < 3; t++) {
            x.mark(t, 1_000);
        }
        for (int n = 0; n < 96; n++) {
            due("4: row", x.row(0, 96 - n, n), n);
        }
        due("4: all corrected", x.change(2, 0, 1, 5), 1);
        due("4: a TAKE and a GIVE each", x.out(-1, 0), 192);
        dueOut("4", x, 0, 0, 95, 0, 1, 95, NONE, NONE, NONE, NONE, NONE, NONE);
        dueOut("4", x, 191, 1, 0, 0, 96, 0, NONE, NONE, NONE, NONE, 1, 5);
        due("4: gives", x.count(5), 192);
        due("4: takes", x.count(6), 96);
        due("5: 96 are there", x.row(0, 1, 1), FULL);
        due("7: FULL leaves what went out", x.out(-1, 0), 192);
    }

    private static void rowsThatCome() {
        AsOfJoins x = new AsOfJoins();
        due("5: no table", x.row(0, 1, 1), BAD);
        x.mark(-1, 5);
        due("5: no table comes ahead of late", x.row(0, 1, 1), BAD);

        x = made(1, 0, 0, 0, 0);
        for (int w : WILD) {
            due("5: wild key", x.row(w, 1, 1), BAD);
            due("5: wild time", x.row(0, w == 18 ? 0 : w, 1), BAD);
            due("5: wild value", x.row(0, 1, w == 18 ? -1 : w), BAD);
        }
        due("5: key", x.row(16, 1, 1), BAD);
        due("5: key -1", x.row(-1, 1, 1), BAD);
        due("5: time", x.row(0, 100_001, 1), BAD);
        due("5: value", x.row(0, 1, 1_001), BAD);
        due("5: value -1", x.row(0, 1, -1), BAD);
        due("5: none came", x.count(4), 0);
        due("5: edges", x.row(15, 100_000, 1_000), 0);
        due("5: edges", x.row(0, 1, 0), 1);
        due("5: waiting", x.count(3), 2);
        x.mark(-1, 40);
        due("5: at ROWMARK", x.row(0, 40, 1), LATE);
        due("5: bad comes ahead of late", x.row(0, 40, -1), BAD);
        due("5: above ROWMARK", x.row(0, 41, 1), 2);
        due("5: late answers", x.count(9), 1);
        due("5: came", x.count(4), 3);
    }

    private static void rowsThatAreJoinedAtOnce() {
        AsOfJoins x = made(2, 0, 0, 0, 0);
        x.change(0, 1, 10, 100);
        x.mark(0, 20);
        x.mark(1, 15);
        due("5: at the lowest mark", x.row(1, 15, 7), 0);
        due("5: went out", x.out(-1, 0), 1);
        dueOut("5", x, 0, 1, 0, 1, 15, 7, 10, 100, NONE, NONE);
        due("5: above the lowest mark", x.row(1, 16, 8), 1);
        due("5: nothing went out", x.out(-1, 0), 0);
        due("5: waits", x.count(3), 1);
    }

    private static void rowsThatAreTooMany() {
        AsOfJoins x = made(1, 0, 0, 0, 0);
        for (int n = 0; n < 96; n++) {
            due("5: row", x.row(n % 16, 10 + n / 2, n), n);
        }
        due("5: 96 are there", x.row(0, 50, 1), FULL);
        x.mark(-1, 9);
        due("5: late comes ahead of full", x.row(0, 9, 1), LATE);
        due("5: bad comes ahead of full", x.row(16, 9, 1), BAD);
        due("6: mark joins all", x.mark(0, 100), 0);
        due("6: all went out", x.out(-1, 0), 96);
        for (int n = 0; n < 96; n++) {
            due("6: in ORDER", x.out(n, 1), n);
        }
        due("6: rows up to HORIZON go", x.mark(-1, 10), 9);
        due("6: rows that are there", x.count(2), 94);
        due("5: room again", x.row(0, 50, 1), 96);
    }

    private static void marks() {
        AsOfJoins x = made(2, 0, 0, 0, 0);
        due("6: no table", x.mark(2, 5), BAD);
        due("6: table -2", x.mark(-2, 5), BAD);
        due("6: time -1", x.mark(0, -1), BAD);
        due("6: time", x.mark(0, 100_001), BAD);
        for (int w : WILD) {
            due("6: wild table", x.mark(w, 5), BAD);
            due("6: wild time", x.mark(0, w == 18 ? -1 : w), BAD);
        }
        due("6: time 0", x.mark(0, 0), NONE);
        due("6: rowmark 0", x.mark(-1, 0), NONE);
        due("6: mark", x.mark(0, 5), 0);
        due("6: mark", x.mark(1, 7), 0);
        due("6: rowmark", x.mark(-1, 6), 0);
        due("6: the same", x.mark(1, 7), NONE);
        due("6: below", x.mark(0, 4), NONE);
        due("6: rowmark below", x.mark(-1, 6), NONE);
        due("6: what it was", x.mark(0, 100_000), 5);
        due("6: what it was", x.mark(-1, 100_000), 6);
        due("6: ROWMARK", x.count(10), 100_000);
        due("6: MARK 0", x.count(11), 100_000);
        due("6: MARK 1", x.count(12), 7);
        due("6: MARK 2", x.count(13), NONE);
    }

    private static void marksThatJoin() {
        AsOfJoins x = made(2, 1, 0, 1, 10);
        x.change(0, 0, 5, 50);
        x.change(1, 0, 6, 60);
        x.row(0, 8, 1);
        x.row(0, 7, 2);
        x.row(0, 6, 3);
        x.row(0, 9, 4);
        x.row(0, 7, 5);
        x.mark(0, 9);
        due("6: one table is behind", x.out(-1, 0), 0);
        x.mark(1, 8);
        due("6: all up to the lowest mark", x.out(-1, 0), 3);
        dueOut("6", x, 0, 1, 1, 0, 7, 2, 5, 50, 6, 60);
        dueOut("6", x, 1, 1, 4, 0, 7, 5, 5, 50, 6, 60);
        dueOut("6", x, 2, 1, 0, 0, 8, 1, 5, 50, 6, 60);
        dueRow("6: not given by INNER", x, 0, 2, 0, 6, 3, 0, 0, BAD);
        dueRow("6: waits still", x, 4, 3, 0, 9, 4, 1, 0, BAD);
        x.mark(-1, 17);
        due("6: rows above HORIZON", x.count(2), 2);
        due("6: rows that went", x.count(7), 3);
        dueRow("6: above HORIZON", x, 0, 0, 0, 8, 1, 0, 1, BAD);
        x.mark(-1, 50);
        due("6: rows that wait stay", x.count(2), 1);
        x.mark(1, 9);
        due("6: joined", x.out(-1, 0), 1);
        due("6: and gone", x.count(2), 0);
        due("6: rows that went", x.count(7), 5);
    }

    private static void versionsThatGo(int side) {
        AsOfJoins x = made(1, side, 0, 0, 10);
        x.change(0, 1, 5, 1);
        x.change(0, 1, 10, -1);
        x.change(0, 1, 20, 3);
        x.change(0, 2, 3, 4);
        x.change(0, 0, 100_000, 4);
        // The version of 5 serves times up to 9 with SIDE 0 and up to 10 with SIDE 1.
        x.mark(-1, 18 + side);
        due("6: the last time is above HORIZON", x.count(1), 5);
        x.mark(-1, 19 + side);
        due("6: it is not", x.count(1), 4);
        due("6: went", x.count(8), 1);
        dueVersions("6", x, 0, 1, 10, -1, 20, 3);
        dueVersions("6", x, 0, 2, 3, 4);
        x.row(1, 30, 1);
        x.mark(-1, 29 + side);
        due("6: GONE ones go too", x.count(8), 2);
        dueVersions("6", x, 0, 1, 20, 3);
        x.mark(-1, 100_000);
        due("6: the last of a key stays", x.count(1), 3);
    }

    private static void versionsThatRowsWaitFor(int side) {
        AsOfJoins x = made(2, side, 0, 0, 0);
        x.change(0, 1, 10, 1);
        x.change(0, 1, 20, 2);
        x.change(0, 1, 30, 3);
        x.change(0, 2, 10, 7);
        x.change(0, 2, 30, 8);
        x.change(1, 1, 5, 9);
        x.change(1, 1, 50, 9);
        x.row(1, 19 + side, 1);
        x.mark(-1, 60);
        dueVersions("6: the last time of 10", x, 0, 1, 10, 1, 30, 3);
        dueVersions("6: the row has another key", x, 0, 2, 30, 8);
        dueVersions("6: the row waits for all tables", x, 1, 1, 5, 9, 50, 9);
        due("6: went", x.count(8), 2);
        x.mark(0, 60);
        due("6: waits still", x.count(8), 2);
        x.mark(1, 60);
        dueOut("6", x, 0, 1, 0, 1, 19 + side, 1, 10, 1, 5, 9);
        due("6: went", x.count(8), 4);
        dueVersions("6", x, 0, 1, 30, 3);

        x = made(1, side, 0, 0, 0);
        x.change(0, 1, 10, 1);
        x.change(0, 1, 20, -1);
        x.change(0, 1, 30, 3);
        x.row(1, 20 + side, 1);
        x.mark(-1, 60);
        dueVersions("6: the first time of a GONE one", x, 0, 1, 20, -1, 30, 3);
    }

    private static void lastHorizon(int side) {
        AsOfJoins x = made(1, side, 0, 0, 0);
        x.change(0, 1, 99_999, 1);
        x.change(0, 1, 100_000, 2);
        x.mark(-1, 99_999);
        due("6: 99,999 is the last time of its version, or 100,000", x.count(8), side == 0 ? 1 : 0);
        x.mark(-1, 100_000);
        due("6: no TIME is above HORIZON", x.count(8), 1);
        dueVersions("6", x, 0, 1, 100_000, 2);
    }

    private static void outs() {
        AsOfJoins x = made(2, 0, 0, 0, 5);
        x.change(0, 6, 3, 30);
        x.row(6, 4, 44);
        x.mark(0, 9);
        x.mark(1, 8);
        dueOut("7", x, 0, 1, 0, 6, 4, 44, 3, 30, NONE, NONE);
        for (int w : WILD) {
            due("7: whatever what", x.out(-1, w), 1);
            due("7: wild what", x.out(0, w), BAD);
            due("7: wild i", x.out(w, 0), BAD);
        }
        due("7: what -1", x.out(0, -1), BAD);
        due("7: i behind the last", x.out(1, 0), BAD);
        x.change(0, 6, 9, 1);
        x.change(0, 16, 9, 1);
        x.row(6, 1, -1);
        x.mark(0, 9);
        x.mark(0, -1);
        x.table();
        x.rule(0, 0);
        due("7: calls that were not done leave it", x.out(-1, 0), 1);
        due("7: late answers", x.count(9), 1);
        x.mark(-1, 2);
        due("7: a mark that was done does not", x.out(-1, 0), 0);
        due("7: out(0, 0)", x.out(0, 0), BAD);
        x.row(6, 8, 1);
        due("7: one", x.out(-1, 0), 1);
        x.row(6, 2, 1);
        due("7: a late row leaves it", x.out(-1, 0), 1);
        x.change(1, 6, 9, 1);
        due("7: a change that was done does not", x.out(-1, 0), 0);
        due("7: gives in all", x.count(5), 2);
    }

    private static void asOfs() {
        for (int side = 0; side < 2; side++) {
            AsOfJoins x = made(2, side, 0, 0, 0);
            x.change(1, 7, 10, 0);
            x.change(1, 7, 20, -1);
            x.change(1, 7, 30, 1_000);
            x.change(1, 6, 1, 66);
            x.change(0, 7, 1, 77);
            due("8: ahead of all", x.asOf(1, 7, 9 + side), NONE);
            due("8: first", x.asOf(1, 7, 10 + side), 0);
            due("8: last time of it", x.asOf(1, 7, 19 + side), 0);
            due("8: GONE", x.asOf(1, 7, 20 + side), NONE);
            due("8: GONE", x.asOf(1, 7, 29 + side), NONE);
            due("8: behind", x.asOf(1, 7, 30 + side), 1_000);
            due("8: last", x.asOf(1, 7, 100_000), 1_000);
            due("8: time 1", x.asOf(1, 6, 1), side == 0 ? 66 : NONE);
            due("8: no version", x.asOf(1, 8, 100_000), NONE);
            due("8: table", x.asOf(2, 7, 1), BAD);
            due("8: table -1", x.asOf(-1, 7, 1), BAD);
            due("8: key", x.asOf(1, 16, 1), BAD);
            due("8: key -1", x.asOf(1, -1, 1), BAD);
            due("8: time 0", x.asOf(1, 7, 0), BAD);
            due("8: time", x.asOf(1, 7, 100_001), BAD);
            for (int w : WILD) {
                due("8: wild table", x.asOf(w, 7, 1), BAD);
                due("8: wild key", x.asOf(1, w, 1), BAD);
                due("8: wild time", x.asOf(1, 7, w == 18 ? 0 : w), BAD);
            }
        }
    }

    private static void versions() {
        AsOfJoins x = made(1, 0, 0, 0, 0);
        x.change(0, 9, 4, 40);
        x.change(0, 9, 2, -1);
        x.change(0, 10, 1, 5);
        dueVersions("9", x, 0, 9, 2, -1, 4, 40);
        due("9: i -1", x.version(0, 9, -1, 0), BAD);
        due("9: what 2", x.version(0, 9, 0, 2), BAD);
        due("9: what -1", x.version(0, 9, 0, -1), BAD);
        due("9: table", x.version(1, 9, 0, 0), BAD);
        due("9: key", x.version(0, 16, 0, 0), BAD);
        for (int w : WILD) {
            due("9: wild table", x.version(w, 9, 0, 0), BAD);
            due("9: wild key", x.version(0, w, 0, 0), BAD);
            due("9: wild i", x.version(0, 9, w, 0), BAD);
            due("9: wild what", x.version(0, 9, 0, w), BAD);
        }
    }

    private static void rowsThatAreThere() {
        AsOfJoins x = made(1, 0, 0, 0, 0);
        x.row(3, 30, 300);
        x.row(2, 20, 200);
        x.row(1, 30, 100);
        x.row(5, 10, 500);
        x.mark(0, 20);
        dueRow("10", x, 0, 3, 5, 10, 500, 0, 1, BAD);
        dueRow("10", x, 1, 1, 2, 20, 200, 0, 1, BAD);
        dueRow("10", x, 2, 0, 3, 30, 300, 1, 0, BAD);
        dueRow("10", x, 3, 2, 1, 30, 100, 1, 0, BAD);
        due("10: i 4", x.there(4, 0), BAD);
        due("10: i -1", x.there(-1, 0), BAD);
        due("10: what -1", x.there(0, -1), BAD);
        for (int w : WILD) {
            due("10: wild i", x.there(w, 0), BAD);
            due("10: wild what", x.there(0, w), BAD);
        }
        x.mark(-1, 10);
        dueRow("10: one went", x, 0, 1, 2, 20, 200, 0, 1, BAD);
    }

    private static void counts() {
        AsOfJoins x = made(2, 1, 1, 1, 3);
        x.change(0, 0, 1, 5);
        x.change(0, 0, 4, 6);
        x.change(1, 0, 1, 7);
        x.row(0, 2, 1);
        x.row(0, 9, 2);
        x.row(0, 5, 3);
        x.mark(0, 6);
        x.mark(1, 5);
        x.change(0, 0, 3, 8);
        x.mark(-1, 8);
        x.row(0, 8, 1);
        x.change(0, 0, 5, 1);
        int[] want = {2, 2, 1, 1, 3, 2, 0, 2, 2, 2, 8, 6, 5, NONE, 1, 1, 1, 3};
        for (int what = 0; what < want.length; what++) {
            due("11: count(" + what + ")", x.count(what), want[what]);
        }
        due("11: count(-1)", x.count(-1), BAD);
        for (int w : WILD) {
            due("11: wild", x.count(w), BAD);
        }
    }

    /** The answers that README.md tells at its example. */
    private static void exampleOfTheReadme() {
        AsOfJoins joins = new AsOfJoins();
        int prices = joins.table();
        due("README: table", prices, 0);
        due("README: LATES", joins.rule(1, 1), 0);
        due("README: KEEP", joins.rule(3, 50), 0);

        due("README: change", joins.change(prices, 1, 10, 5), 1);
        due("README: row", joins.row(1, 12, 700), 0);
        due("README: mark", joins.mark(prices, 40), 0);
        due("README: went out", joins.out(-1, 0), 1);
        due("README: a GIVE", joins.out(0, 0), 1);
        due("README: its value", joins.out(0, 6), 5);

        due("README: late change", joins.change(prices, 1, 11, 6), 2);
        due("README: went out", joins.out(-1, 0), 2);
        due("README: a TAKE", joins.out(0, 0), 0);
        due("README: what was given", joins.out(0, 6), 5);
        due("README: what is given", joins.out(1, 6), 6);

        due("README: mark of rows", joins.mark(-1, 70), 0);
        due("README: rows that went", joins.count(7), 1);
        due("README: versions that went", joins.count(8), 1);
        due("README: asOf", joins.asOf(prices, 1, 21), 6);
        due("README: change that is late", joins.change(prices, 1, 20, 7), LATE);
    }

    public static void main(String[] args) {
        constants();
        exampleOfTheReadme();
        newObject();
        tables();
        rules();
        changesInOrder();
        changesThatAreBad();
        changesThatAreLate();
        changesThatAreTooMany();
        corrections();
        correctionsOfInner();
        manyCorrections();
        rowsThatCome();
        rowsThatAreJoinedAtOnce();
        rowsThatAreTooMany();
        marks();
        marksThatJoin();
        for (int side = 0; side < 2; side++) {
            versionsThatGo(side);
            versionsThatRowsWaitFor(side);
            lastHorizon(side);
        }
        outs();
        asOfs();
        versions();
        rowsThatAreThere();
        counts();
        System.out.println(wrong == 0 ? "all answers are as due" : wrong + " answers are not as due");
        if (wrong != 0) {
            System.exit(1);
        }
    }
}
