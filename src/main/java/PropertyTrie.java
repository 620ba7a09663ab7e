import java.util.Arrays;

/**
 * Properties of all code points in a trie: blocks that are all alike are one number, others have
 * rows of their own, and records of fields are kept once, however many points have them.
 */
public final class PropertyTrie {
    private static final int LAST_POINT = 1114111;
    private static final int FIELDS = 8;
    private static final int MOST_CALLS = 512;
    private static final int MOST_HASHED = 4000;
    private static final int POINTS_COUNTED = 1024;

    private static final int ROW_BITS = 5;
    private static final int ROW_CELLS = 1 << ROW_BITS;
    private static final int TOP_BITS = 2 * ROW_BITS;
    private static final int TOP_CELLS = (LAST_POINT + 1) >> TOP_BITS;
    private static final int NONE = -1;

    private final Blocks blocks;

    public PropertyTrie() {
        blocks = new Blocks();
    }

    public int set(int first, int last, int field, int v) throws IllegalArgumentException {
        return mark(first, last, field, v, 0);
    }

    public int mark(int first, int last, int field, int v, int kept) throws IllegalArgumentException {
        checkRange(first, last);
        checkField(field);
        blocks.records.begin(field, v, kept);
        blocks.alter(first, last);
        return last - first + 1;
    }

    public int get(int point, int field) throws IllegalArgumentException {
        checkPoint(point);
        checkField(field);
        return valueAt(point, field);
    }

    public int change(int p, int field) throws IllegalArgumentException {
        checkPoint(p);
        checkField(field);
        int own = valueAt(p, field);
        int point = p;
        while (point <= LAST_POINT) {
            if (valueAt(point, field) != own) {
                return point;
            }
            point = Math.max(point, blocks.foundLast) + 1;
        }
        return NONE;
    }

    public boolean alike(int p, int q) throws IllegalArgumentException {
        checkPoint(p);
        checkPoint(q);
        // A record is kept once, so points with the same fields have the same number.
        return blocks.recordOf(p) == blocks.recordOf(q);
    }

    public int hash(int first, int last, int field) throws IllegalArgumentException {
        checkRange(first, last);
        checkLength(last - first + 1);
        checkField(field);
        int h = 1;
        int value = 0;
        int valueLast = NONE;
        for (int point = first; point <= last; point++) {
            if (point > valueLast) {
                value = valueAt(point, field);
                valueLast = blocks.foundLast;
            }
            h = 31 * h + value;
        }
        return h;
    }

    public int clear() {
        int count = 0;
        int point = 0;
        while (point < POINTS_COUNTED) {
            boolean blank = blocks.recordOf(point) == Records.BLANK;
            int next = Math.max(point, blocks.foundLast) + 1;
            if (!blank) {
                count += next - point;
            }
            point = next;
        }
        blocks.empty();
        return count;
    }

    private int valueAt(int point, int field) {
        return blocks.records.value(blocks.recordOf(point), field);
    }

    private static void checkPoint(int point) {
        if (point < 0 || point > LAST_POINT) {
            throw new IllegalArgumentException("a point is 0 .. 1114111");
        }
    }

    private static void checkRange(int first, int last) {
        if (first < 0 || first > last || last > LAST_POINT) {
            throw new IllegalArgumentException("a range is 0 .. first .. last .. 1114111");
        }
    }

    private static void checkField(int field) {
        if (field < 0 || field >= FIELDS) {
            throw new IllegalArgumentException("a field is 0 .. 7");
        }
    }

    private static void checkLength(int points) {
        if (points > MOST_HASHED) {
            throw new IllegalArgumentException("a hash is over at most 4000 points");
        }
    }

    /**
     * The trie: a top row of blocks of 1024 points, below it rows of 32 blocks of 32 points, below
     * those rows of 32 points. A cell holds the number of a record if all of its points have that
     * record, else the place of its row's first cell, negated; no row begins at place 0.
     */
    private static final class Blocks {
        /** Each of a change's two ends opens at most one row on each level below the top. */
        private static final int ROWS_A_CHANGE = 4;
        private static final int MOST_ROWS = MOST_CALLS * ROWS_A_CHANGE;

        private final Records records = new Records();
        private final int[] cells = new int[TOP_CELLS + MOST_ROWS * ROW_CELLS];
        private final int[] spareRows = new int[MOST_ROWS];
        private int spares;

        private int found;
        private int foundFirst;
        private int foundLast;

        Blocks() {
            empty();
        }

        void empty() {
            records.empty();
            Arrays.fill(cells, 0, TOP_CELLS, Records.BLANK);
            records.hold(Records.BLANK, TOP_CELLS);
            for (int i = 0; i < MOST_ROWS; i++) {
                spareRows[i] = TOP_CELLS + i * ROW_CELLS;
            }
            spares = MOST_ROWS;
        }

        int recordOf(int point) {
            find(point);
            return cells[found];
        }

        /** Finds the cell with a record that the point is in, and the cell's first and last point. */
        private void find(int point) {
            int bits = TOP_BITS;
            found = point >> bits;
            while (bits > 0 && cells[found] < 0) {
                bits -= ROW_BITS;
                found = -cells[found] + ((point >> bits) & (ROW_CELLS - 1));
            }
            int inside = (1 << bits) - 1;
            foundFirst = point & ~inside;
            foundLast = point | inside;
        }

        /** Makes the change that the records have begun on the points first .. last. */
        void alter(int first, int last) {
            // Only an object past its last promised call can lack rows: it stays as it is.
            if (spares < ROWS_A_CHANGE) {
                return;
            }
            splitBefore(first);
            if (last < LAST_POINT) {
                splitBefore(last + 1);
            }
            int point = first;
            while (point <= last) {
                find(point);
                replace(found);
                point = Math.max(point, foundLast) + 1;
            }
            for (int top = first >> TOP_BITS; top <= last >> TOP_BITS; top++) {
                joinBelow(top);
            }
        }

        /** Opens rows until a cell with a record begins at the point. */
        private void splitBefore(int point) {
            find(point);
            for (int bits = TOP_BITS; bits > 0 && foundFirst < point; bits -= ROW_BITS) {
                split(found);
                find(point);
            }
        }

        private void split(int cell) {
            if (spares > 0) {
                spares--;
                int row = spareRows[spares];
                int record = cells[cell];
                Arrays.fill(cells, row, row + ROW_CELLS, record);
                records.hold(record, ROW_CELLS - 1);
                cells[cell] = -row;
            }
        }

        private void replace(int cell) {
            int old = cells[cell];
            int altered = records.altered(old);
            if (altered != old) {
                cells[cell] = altered;
                records.hold(altered, 1);
                records.release(old, 1);
            }
        }

        private void joinBelow(int top) {
            int row = -cells[top];
            if (row > 0) {
                for (int i = 0; i < ROW_CELLS; i++) {
                    join(row + i);
                }
                join(top);
            }
        }

        /** Makes a cell whose row is all alike one number again. */
        private void join(int cell) {
            int row = -cells[cell];
            if (row > 0 && isAllAlike(row)) {
                int record = cells[row];
                cells[cell] = record;
                records.release(record, ROW_CELLS - 1);
                spareRows[spares] = row;
                spares++;
            }
        }

        private boolean isAllAlike(int row) {
            int record = cells[row];
            if (record < 0) {
                return false;
            }
            for (int i = 1; i < ROW_CELLS; i++) {
                if (cells[row + i] != record) {
                    return false;
                }
            }
            return true;
        }
    }

    /** The records of fields, each kept once, for as long as a cell holds its number. */
    private static final class Records {
        /** The record of zeros; it is never dropped. */
        static final int BLANK = 0;

        /**
         * The calls' ends cut the points into at most two pieces a call and one, each with one
         * record; BLANK, the piece that a change has half done and the record that it is about to
         * put in are over and above these.
         */
        private static final int MOST_RECORDS = 2 * MOST_CALLS + 1 + 3;
        private static final int CHAINS = 1024;

        private final int[] values = new int[MOST_RECORDS * FIELDS];
        private final int[] holders = new int[MOST_RECORDS];
        private final int[] spareRecords = new int[MOST_RECORDS];
        private int spares;

        /** Records by their values: the first of each chain, and the one behind each record. */
        private final int[] heads = new int[CHAINS];
        private final int[] behind = new int[MOST_RECORDS];

        /**
         * The change under way, and what it makes of each record that it has met. It goes over each
         * cell once, so it never meets a record that it has itself made.
         */
        private int field;
        private int v;
        private int kept;
        private final int[] outcome = new int[MOST_RECORDS];
        private final int[] wanted = new int[FIELDS];

        Records() {
            empty();
        }

        void empty() {
            Arrays.fill(heads, NONE);
            Arrays.fill(holders, 0);
            // The last is taken first: BLANK.
            for (int i = 0; i < MOST_RECORDS; i++) {
                spareRecords[i] = MOST_RECORDS - 1 - i;
            }
            spares = MOST_RECORDS;
            Arrays.fill(wanted, 0);
            hold(keepWanted(chainOf(wanted, 0)), 1);
        }

        int value(int record, int ofField) {
            return values[record * FIELDS + ofField];
        }

        void hold(int record, int times) {
            holders[record] += times;
        }

        void release(int record, int times) {
            holders[record] -= times;
            if (holders[record] == 0) {
                drop(record);
            }
        }

        void begin(int ofField, int newBits, int keptBits) {
            field = ofField;
            v = newBits;
            kept = keptBits;
            Arrays.fill(outcome, NONE);
        }

        /** The record that the change under way makes of this one. */
        int altered(int record) {
            if (outcome[record] == NONE) {
                System.arraycopy(values, record * FIELDS, wanted, 0, FIELDS);
                wanted[field] = (wanted[field] & kept) | v;
                int chain = chainOf(wanted, 0);
                int same = findWanted(chain);
                if (same == NONE) {
                    // Only an object past its last promised call can lack room: the record stays.
                    same = spares > 0 ? keepWanted(chain) : record;
                }
                outcome[record] = same;
            }
            return outcome[record];
        }

        private int findWanted(int chain) {
            int record = heads[chain];
            for (int i = 0; i < MOST_RECORDS && record != NONE; i++) {
                if (isWanted(record)) {
                    return record;
                }
                record = behind[record];
            }
            return NONE;
        }

        private boolean isWanted(int record) {
            for (int i = 0; i < FIELDS; i++) {
                if (values[record * FIELDS + i] != wanted[i]) {
                    return false;
                }
            }
            return true;
        }

        private int keepWanted(int chain) {
            spares--;
            int record = spareRecords[spares];
            System.arraycopy(wanted, 0, values, record * FIELDS, FIELDS);
            behind[record] = heads[chain];
            heads[chain] = record;
            return record;
        }

        private void drop(int record) {
            int chain = chainOf(values, record * FIELDS);
            int before = NONE;
            int at = heads[chain];
            for (int i = 0; i < MOST_RECORDS && at != NONE && at != record; i++) {
                before = at;
                at = behind[at];
            }
            if (before == NONE) {
                heads[chain] = behind[record];
            } else {
                behind[before] = behind[record];
            }
            spareRecords[spares] = record;
            spares++;
        }

        private static int chainOf(int[] row, int from) {
            int h = 0;
            for (int i = from; i < from + FIELDS; i++) {
                h = 31 * h + row[i];
            }
            h ^= h >>> 20 ^ h >>> 10;
            return h & (CHAINS - 1);
        }
    }
}
