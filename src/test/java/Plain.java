import java.util.Arrays;

/** The document's words with one number for each field of each point: slow, and plainly right. */
final class Plain {
    static final int POINTS = 1114112;
    static final int FIELDS = 8;

    private final int[][] held = new int[FIELDS][POINTS];

    int mark(int first, int last, int field, int v, int kept) {
        for (int point = first; point <= last; point++) {
            held[field][point] = (held[field][point] & kept) | v;
        }
        return last - first + 1;
    }

    int set(int first, int last, int field, int v) {
        Arrays.fill(held[field], first, last + 1, v);
        return last - first + 1;
    }

    int get(int point, int field) {
        return held[field][point];
    }

    int change(int p, int field) {
        for (int point = p; point < POINTS; point++) {
            if (held[field][point] != held[field][p]) {
                return point;
            }
        }
        return -1;
    }

    boolean alike(int p, int q) {
        for (int field = 0; field < FIELDS; field++) {
            if (held[field][p] != held[field][q]) {
                return false;
            }
        }
        return true;
    }

    int hash(int first, int last, int field) {
        int h = 1;
        for (int point = first; point <= last; point++) {
            h = 31 * h + held[field][point];
        }
        return h;
    }

    int clear() {
        int count = 0;
        for (int point = 0; point < 1024; point++) {
            boolean blank = true;
            for (int field = 0; field < FIELDS; field++) {
                blank &= held[field][point] == 0;
            }
            count += blank ? 0 : 1;
        }
        for (int[] row : held) {
            Arrays.fill(row, 0);
        }
        return count;
    }
}
