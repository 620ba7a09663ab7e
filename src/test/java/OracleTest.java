import java.util.Random;

/** Long runs of mixed calls, each answer held against that of the plain table; always the same runs. */
public final class OracleTest {
    private static final int LAST = Plain.POINTS - 1;
    private static final int CALLS = 512;
    private static final int[] EDGES = {0, 31, 32, 255, 256, 1023, 1024, 4095, 4096, 65535, 65536, 1048576, LAST};

    private final Checks checks;
    private final Random random;
    private final Plain plain = new Plain();
    private final PropertyTrie trie = new PropertyTrie();
    private final int zone;
    private final int changesInTen;
    private final int[] ends = new int[16];

    private OracleTest(Checks checks, int seed) {
        this.checks = checks;
        random = new Random(seed);
        zone = new int[] {200, 3000, 70000, LAST}[seed % 4];
        changesInTen = new int[] {2, 5, 9}[seed % 3];
    }

    public static void main(String[] args) {
        Checks checks = new Checks();
        for (int seed = 0; seed < 60; seed++) {
            OracleTest mixed = new OracleTest(checks, seed);
            checks.about("mixed run " + seed, mixed::mixedCalls);
            OracleTest whole = new OracleTest(checks, seed);
            checks.about("whole state " + seed, whole::wholeState);
        }
        checks.finish();
    }

    private void mixedCalls() {
        for (int i = 0; i < CALLS; i++) {
            String where = "call " + i + ": ";
            if (random.nextInt(120) == 0) {
                checks.due(where + "clear()", trie.clear(), plain.clear());
            } else if (random.nextInt(10) < changesInTen) {
                alter(where);
            } else {
                ask(where);
            }
        }
    }

    /** A few changes, so that a look at every piece of every field stays within the calls of an object. */
    private void wholeState() {
        for (int i = 0; i < 28; i++) {
            alter("change " + i + ": ");
        }
        new WholeState(plain).check(checks, "", trie);
        checks.due("clear()", trie.clear(), plain.clear());
    }

    private void alter(String where) {
        int a = point();
        int b = random.nextInt(3) == 0 ? point() : Math.min(LAST, a + random.nextInt(80));
        int first = random.nextInt(25) == 0 ? 0 : Math.min(a, b);
        int last = random.nextInt(25) == 0 ? LAST : Math.max(a, b);
        int field = random.nextInt(Plain.FIELDS);
        int v = value();
        ends[random.nextInt(ends.length)] = first;
        ends[random.nextInt(ends.length)] = last;
        String call = where + "(" + first + ", " + last + ", " + field + ", " + v;
        if (random.nextBoolean()) {
            checks.due(call + ") set", trie.set(first, last, field, v), plain.set(first, last, field, v));
        } else {
            int kept = random.nextInt(4) == 0 ? value() : ~value();
            checks.due(call + ", " + kept + ") mark", trie.mark(first, last, field, v, kept),
                    plain.mark(first, last, field, v, kept));
        }
    }

    private void ask(String where) {
        int p = point();
        int q = point();
        int field = random.nextInt(Plain.FIELDS);
        String call = where + "p " + p + ", q " + q + ", field " + field;
        switch (random.nextInt(4)) {
            case 0 -> checks.due(call + " get", trie.get(p, field), plain.get(p, field));
            case 1 -> checks.due(call + " change", trie.change(p, field), plain.change(p, field));
            case 2 -> checks.due(call + " alike", trie.alike(p, q), plain.alike(p, q));
            default -> {
                int last = Math.min(LAST, p + random.nextInt(4000));
                checks.due(call + " hash to " + last, trie.hash(p, last, field), plain.hash(p, last, field));
            }
        }
    }

    /** Most points lie where something may have gone wrong: at ends of earlier ranges and of blocks. */
    private int point() {
        int near = random.nextInt(3) - 1;
        int point = switch (random.nextInt(4)) {
            case 0 -> random.nextInt(zone);
            case 1 -> EDGES[random.nextInt(EDGES.length)] + near;
            case 2 -> random.nextInt(zone) / 32 * 32 + near;
            default -> ends[random.nextInt(ends.length)] + near;
        };
        return Math.max(0, Math.min(LAST, point));
    }

    /** Few values, so that points become alike again by other ways. */
    private int value() {
        return switch (random.nextInt(8)) {
            case 0 -> random.nextInt();
            case 1 -> Integer.MIN_VALUE;
            case 2 -> -1;
            default -> random.nextInt(3);
        };
    }
}
