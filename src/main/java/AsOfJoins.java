/**
 * Rows joined with tables as these were at the rows' times. The words in capitals
 * (VERSION, JOIN, MARK, HORIZON ..) are those of the document, ../shared/DOC.md.
 */
public final class AsOfJoins {
    public static final int BAD = -1, NONE = -2, FULL = -3, LATE = -4, TURN = -5;

    private static final int MOST_TABLES = 3;
    private static final int KEYS = 16;
    private static final int LAST_TIME = 100_000;
    private static final int MOST_VALUE = 1_000;
    private static final int GONE = -1;
    private static final int MOST_KEEP = 1_000;
    private static final int MOST_VERSIONS = 160;
    private static final int MOST_ROWS = 96;
    private static final int MOST_ROWS_EVER = 30_000;

    private static final int SIDE = 0, LATES = 1, INNER = 2, KEEP = 3, RULES = 4;

    /** The number that stands for the rows where a table's number is asked for. */
    private static final int ROWS_MARK = -1;

    /** A JOIN is a FROM and a VALUE for each table that there may be. */
    private static final int JOIN_WIDTH = 2 * MOST_TABLES;

    private final int[] rules = new int[RULES];
    private final int[] marks = new int[MOST_TABLES];
    private final Versions versions = new Versions();
    private final Rows rows = new Rows();
    private final Outs outs = new Outs();

    /** The JOIN that is worked out at the moment: kept so that no call makes an array. */
    private final int[] join = new int[JOIN_WIDTH];

    private int tables;
    private int rowMark;
    private int rowsCame;
    private int rowsWent;
    private int versionsWent;
    private int lateAnswers;
    private boolean begun;

    public AsOfJoins() {
    }

    public int table() {
        if (tables >= MOST_TABLES) {
            return FULL;
        }
        if (begun) {
            return TURN;
        }
        tables++;
        return tables - 1;
    }

    public int rule(int what, int v) {
        if (what < 0 || what >= RULES || v < 0 || v > (what == KEEP ? MOST_KEEP : 1)) {
            return BAD;
        }
        if (begun) {
            return TURN;
        }
        int before = rules[what];
        rules[what] = v;
        return before;
    }

    public int change(int table, int key, int from, int value) {
        if (!isTable(table) || !isKey(key) || !isTime(from) || (value != GONE && !isValue(value))) {
            return BAD;
        }
        if (isLateChange(table, from)) {
            lateAnswers++;
            return LATE;
        }
        if (versions.size() >= MOST_VERSIONS) {
            return FULL;
        }
        begin();
        int place = placeOf(table, key);
        versions.put(place, from, value);
        correctRows(key);
        return versions.sizeAt(place);
    }

    public int row(int key, int time, int value) {
        if (!isKey(key) || !isTime(time) || !isValue(value) || tables == 0) {
            return BAD;
        }
        if (time <= rowMark) {
            lateAnswers++;
            return LATE;
        }
        if (rows.size() >= MOST_ROWS || rowsCame >= MOST_ROWS_EVER) {
            return FULL;
        }
        begin();
        int number = rowsCame;
        rowsCame++;
        rows.add(number, key, time, value);
        joinRows();
        return number;
    }

    public int mark(int table, int time) {
        if ((table != ROWS_MARK && !isTable(table)) || time < 0 || time > LAST_TIME) {
            return BAD;
        }
        int before = isTable(table) ? marks[table] : rowMark;
        if (time <= before) {
            return NONE;
        }
        begin();
        if (isTable(table)) {
            marks[table] = time;
        } else {
            rowMark = time;
        }
        joinRows();
        rowsWent += rows.dropJoined(horizon());
        dropVersions();
        return before;
    }

    public int out(int i, int what) {
        if (i == -1) {
            return outs.size();
        }
        if (i < 0 || i >= outs.size() || what < 0 || what >= Outs.JOIN + 2 * tables) {
            return BAD;
        }
        return outs.get(i, what);
    }

    public int asOf(int table, int key, int time) {
        if (!isTable(table) || !isKey(key) || !isTime(time)) {
            return BAD;
        }
        int line = versions.lineAsOf(placeOf(table, key), time - rules[SIDE]);
        return line < 0 ? NONE : versions.get(line, Versions.VALUE);
    }

    public int version(int table, int key, int i, int what) {
        if (!isTable(table) || !isKey(key) || (what != Versions.FROM && what != Versions.VALUE)) {
            return BAD;
        }
        int place = placeOf(table, key);
        if (i < 0 || i >= versions.sizeAt(place)) {
            return BAD;
        }
        return versions.get(versions.startOf(place) + i, what);
    }

    public int there(int i, int what) {
        if (i < 0 || i >= rows.size() || what < 0 || what >= Rows.JOIN) {
            return BAD;
        }
        return rows.get(i, what);
    }

    public int count(int what) {
        switch (what) {
            case 0: return tables;
            case 1: return versions.size();
            case 2: return rows.size();
            case 3: return rows.waiting();
            case 4: return rowsCame;
            case 5: return outs.gives;
            case 6: return outs.takes;
            case 7: return rowsWent;
            case 8: return versionsWent;
            case 9: return lateAnswers;
            case 10: return rowMark;
            case 11: return markOrNone(0);
            case 12: return markOrNone(1);
            case 13: return markOrNone(2);
            case 14: return rules[SIDE];
            case 15: return rules[LATES];
            case 16: return rules[INNER];
            case 17: return rules[KEEP];
            default: return BAD;
        }
    }

    private boolean isTable(int table) {
        return table >= 0 && table < tables && table < MOST_TABLES;
    }

    private static boolean isKey(int key) {
        return key >= 0 && key < KEYS;
    }

    private static boolean isTime(int time) {
        return time >= 1 && time <= LAST_TIME;
    }

    private static boolean isValue(int value) {
        return value >= 0 && value <= MOST_VALUE;
    }

    private static int placeOf(int table, int key) {
        return table * KEYS + key;
    }

    private int markOrNone(int table) {
        return isTable(table) ? marks[table] : NONE;
    }

    private int horizon() {
        return rowMark - rules[KEEP];
    }

    private boolean isLateChange(int table, int from) {
        if (!isTable(table) || from > marks[table]) {
            return false;
        }
        return rules[LATES] == 0 || from <= horizon();
    }

    /** Only a call that is done comes here: it ends the time of table() and rule(), and what went out before. */
    private void begin() {
        begun = true;
        outs.clear();
    }

    private int lowestMark() {
        int lowest = LAST_TIME;
        for (int t = 0; t < tables && t < MOST_TABLES; t++) {
            lowest = Math.min(lowest, marks[t]);
        }
        return lowest;
    }

    private void findJoin(int key, int time) {
        for (int t = 0; t < MOST_TABLES; t++) {
            int line = versions.lineAsOf(placeOf(t, key), time - rules[SIDE]);
            join[2 * t] = line < 0 ? NONE : versions.get(line, Versions.FROM);
            join[2 * t + 1] = line < 0 ? NONE : versions.get(line, Versions.VALUE);
        }
    }

    private boolean isGivenByJoin() {
        if (rules[INNER] == 0) {
            return true;
        }
        for (int t = 0; t < tables && t < MOST_TABLES; t++) {
            if (join[2 * t] == NONE) {
                return false;
            }
        }
        return true;
    }

    private void joinRows() {
        int lowest = lowestMark();
        for (int line = 0; line < rows.size(); line++) {
            int time = rows.get(line, Rows.TIME);
            if (rows.waits(line) && time <= lowest) {
                findJoin(rows.get(line, Rows.KEY), time);
                takeJoin(line);
            }
        }
    }

    private void takeJoin(int line) {
        boolean given = isGivenByJoin();
        rows.setJoin(line, join, given);
        if (given) {
            outs.add(Outs.GIVE, rows, line);
        }
    }

    /** A change of one key leaves the JOINS of all others as they are. */
    private void correctRows(int key) {
        for (int line = 0; line < rows.size(); line++) {
            if (rows.get(line, Rows.KEY) == key && !rows.waits(line)) {
                correctRow(line);
            }
        }
    }

    private void correctRow(int line) {
        findJoin(rows.get(line, Rows.KEY), rows.get(line, Rows.TIME));
        if (rows.hasJoin(line, join)) {
            return;
        }
        if (rows.wasGiven(line)) {
            outs.add(Outs.TAKE, rows, line);
        }
        takeJoin(line);
    }

    private void dropVersions() {
        int line = 0;
        for (int left = versions.size(); left > 0; left--) {
            if (isNeedless(line)) {
                versions.drop(line);
                versionsWent++;
            } else {
                line++;
            }
        }
    }

    private boolean isNeedless(int line) {
        int place = versions.get(line, Versions.PLACE);
        if (versions.get(line + 1, Versions.PLACE) != place) {
            return false;
        }
        // With SIDE 1 a version holds from the time behind its FROM to the next FROM itself.
        int first = versions.get(line, Versions.FROM) + rules[SIDE];
        int last = versions.get(line + 1, Versions.FROM) - 1 + rules[SIDE];
        return last <= horizon() && !rows.anyWaits(place % KEYS, first, last);
    }

    /** Lines of numbers, all of one width, in one array that is made once and used for all calls. */
    private static final class Sheet {
        private final int width;
        private final int limit;
        private final int[] cells;
        private int lines;

        Sheet(int width, int limit) {
            this.width = Math.max(1, width);
            this.limit = Math.max(0, limit);
            this.cells = new int[this.width * this.limit];
        }

        int size() {
            return lines;
        }

        /** NONE beyond the lines, so that a neighbour may be looked at without asking first. */
        int get(int line, int column) {
            if (line < 0 || line >= lines || column < 0 || column >= width) {
                return NONE;
            }
            return cells[line * width + column];
        }

        void set(int line, int column, int number) {
            if (line < 0 || line >= lines || column < 0 || column >= width) {
                return;
            }
            cells[line * width + column] = number;
        }

        /** Makes room for a line; its cells are left for the caller to set. */
        boolean open(int line) {
            if (line < 0 || line > lines || lines >= limit) {
                return false;
            }
            int at = line * width;
            System.arraycopy(cells, at, cells, at + width, (lines - line) * width);
            lines++;
            return true;
        }

        void drop(int line) {
            if (line < 0 || line >= lines) {
                return;
            }
            int behind = (line + 1) * width;
            System.arraycopy(cells, behind, cells, behind - width, lines * width - behind);
            lines--;
        }

        void clear() {
            lines = 0;
        }
    }

    /** All VERSIONS, by place (a table and a KEY), then by FROM. */
    private static final class Versions {
        static final int FROM = 0, VALUE = 1, PLACE = 2, WIDTH = 3;

        /** Halved down to 1 the steps reach 255 lines, more than there can be. */
        private static final int FIRST_STEP = 128;

        private final Sheet sheet = new Sheet(WIDTH, MOST_VERSIONS);

        int size() {
            return sheet.size();
        }

        int get(int line, int column) {
            return sheet.get(line, column);
        }

        void drop(int line) {
            sheet.drop(line);
        }

        int startOf(int place) {
            return linesUpTo(place, 0);
        }

        int sizeAt(int place) {
            return linesUpTo(place, LAST_TIME) - startOf(place);
        }

        /** The line with the greatest FROM of the place that is not above from; -1 if there is none, or it is GONE. */
        int lineAsOf(int place, int from) {
            int line = linesUpTo(place, from) - 1;
            return sheet.get(line, PLACE) == place && sheet.get(line, VALUE) != GONE ? line : -1;
        }

        void put(int place, int from, int value) {
            int at = linesUpTo(place, from);
            if (sheet.get(at - 1, PLACE) == place && sheet.get(at - 1, FROM) == from) {
                sheet.set(at - 1, VALUE, value);
            } else if (sheet.open(at)) {
                sheet.set(at, FROM, from);
                sheet.set(at, VALUE, value);
                sheet.set(at, PLACE, place);
            }
        }

        /** How many lines are of lower places, or of the place with a FROM that is not above from. */
        private int linesUpTo(int place, int from) {
            int n = 0;
            for (int step = FIRST_STEP; step > 0; step /= 2) {
                int last = n + step - 1;
                int other = sheet.get(last, PLACE);
                boolean isBehind = other > place || (other == place && sheet.get(last, FROM) > from);
                if (last < sheet.size() && !isBehind) {
                    n += step;
                }
            }
            return n;
        }
    }

    /** The ROWS that are there, in ORDER. The columns ahead of JOIN are those that there() tells. */
    private static final class Rows {
        static final int NUMBER = 0, KEY = 1, TIME = 2, VALUE = 3, WAITS = 4, GIVEN = 5, JOIN = 6;

        private final Sheet sheet = new Sheet(JOIN + JOIN_WIDTH, MOST_ROWS);

        int size() {
            return sheet.size();
        }

        int get(int line, int column) {
            return sheet.get(line, column);
        }

        boolean waits(int line) {
            return sheet.get(line, WAITS) == 1;
        }

        boolean wasGiven(int line) {
            return sheet.get(line, GIVEN) == 1;
        }

        /** A new row has the greatest number, so it stands behind all of its TIME. */
        void add(int number, int key, int time, int value) {
            int line = sheet.size();
            while (line > 0 && sheet.get(line - 1, TIME) > time) {
                line--;
            }
            if (sheet.open(line)) {
                sheet.set(line, NUMBER, number);
                sheet.set(line, KEY, key);
                sheet.set(line, TIME, time);
                sheet.set(line, VALUE, value);
                sheet.set(line, WAITS, 1);
                sheet.set(line, GIVEN, 0);
            }
        }

        void setJoin(int line, int[] join, boolean given) {
            if (join == null) {
                return;
            }
            sheet.set(line, WAITS, 0);
            sheet.set(line, GIVEN, given ? 1 : 0);
            for (int c = 0; c < JOIN_WIDTH && c < join.length; c++) {
                sheet.set(line, JOIN + c, join[c]);
            }
        }

        boolean hasJoin(int line, int[] join) {
            if (join == null) {
                return false;
            }
            for (int c = 0; c < JOIN_WIDTH && c < join.length; c++) {
                if (sheet.get(line, JOIN + c) != join[c]) {
                    return false;
                }
            }
            return true;
        }

        int waiting() {
            int n = 0;
            for (int line = 0; line < sheet.size(); line++) {
                n += sheet.get(line, WAITS);
            }
            return n;
        }

        boolean anyWaits(int key, int first, int last) {
            for (int line = 0; line < sheet.size(); line++) {
                int time = sheet.get(line, TIME);
                if (waits(line) && sheet.get(line, KEY) == key && time >= first && time <= last) {
                    return true;
                }
            }
            return false;
        }

        /** Drops the joined rows up to the horizon and tells how many went. */
        int dropJoined(int horizon) {
            int before = sheet.size();
            for (int line = before - 1; line >= 0; line--) {
                if (!waits(line) && sheet.get(line, TIME) <= horizon) {
                    sheet.drop(line);
                }
            }
            return before - sheet.size();
        }
    }

    /** What went out by the latest call that was done, in the columns that out() tells, and how much in all. */
    private static final class Outs {
        static final int KIND = 0, NUMBER = 1, KEY = 2, TIME = 3, VALUE = 4, JOIN = 5;
        static final int TAKE = 0, GIVE = 1;

        /** At most a TAKE and a GIVE for each row that is there. */
        private final Sheet sheet = new Sheet(JOIN + JOIN_WIDTH, 2 * MOST_ROWS);
        private int gives;
        private int takes;

        int size() {
            return sheet.size();
        }

        int get(int line, int column) {
            return sheet.get(line, column);
        }

        void clear() {
            sheet.clear();
        }

        void add(int kind, Rows rows, int line) {
            int at = sheet.size();
            if (rows == null || !sheet.open(at)) {
                return;
            }
            if (kind == GIVE) {
                gives++;
            } else {
                takes++;
            }
            sheet.set(at, KIND, kind);
            sheet.set(at, NUMBER, rows.get(line, Rows.NUMBER));
            sheet.set(at, KEY, rows.get(line, Rows.KEY));
            sheet.set(at, TIME, rows.get(line, Rows.TIME));
            sheet.set(at, VALUE, rows.get(line, Rows.VALUE));
            for (int c = 0; c < JOIN_WIDTH; c++) {
                sheet.set(at, JOIN + c, rows.get(line, Rows.JOIN + c));
            }
        }
    }
}
