import java.util.ArrayList;
import java.util.LinkedHashMap;
import java.util.List;
import java.util.Map;
import java.util.function.ToLongFunction;

/** Calls that must throw, by the method that throws: each number of each method out of its range. */
final class Refusals {
    /** One such call, for any object. */
    record Refusal(String text, ToLongFunction<PropertyTrie> call) {
    }

    static final int LAST = Plain.POINTS - 1;

    /** Too small and too large, by one and by as much as can be. */
    static final int[] NO_POINTS = {-1, LAST + 1, -LAST, 1 << 21, Integer.MIN_VALUE, Integer.MAX_VALUE};
    static final int[] NO_FIELDS = {-1, 8, -8, 16, Integer.MIN_VALUE, Integer.MAX_VALUE};

    /** One end out of range, both, and ends that are the wrong way round. */
    static final int[][] NO_RANGES = {
        {-1, 0}, {-1, -1}, {-1, LAST}, {0, LAST + 1}, {LAST, LAST + 1}, {LAST + 1, LAST + 1}, {-1, LAST + 1},
        {1, 0}, {0, -1}, {LAST, LAST - 1}, {LAST + 1, LAST}, {LAST, 0}, {2000, 1000}, {LAST + 1, 0}, {LAST + 1, -1},
        {Integer.MIN_VALUE, Integer.MAX_VALUE}, {Integer.MAX_VALUE, Integer.MIN_VALUE},
        {0, Integer.MAX_VALUE}, {0, Integer.MIN_VALUE}, {Integer.MIN_VALUE, 0}, {Integer.MAX_VALUE, 0},
        {Integer.MIN_VALUE, Integer.MIN_VALUE}, {Integer.MAX_VALUE, Integer.MAX_VALUE},
    };

    static final int[][] TOO_LONG_TO_HASH = {
        {0, 4000}, {1, 4001}, {1000, 5000}, {LAST - 4000, LAST}, {0, 8191}, {0, LAST - 1}, {1, LAST}, {0, LAST},
    };

    private final Map<String, List<Refusal>> byMethod = new LinkedHashMap<>();

    Refusals() {
        addPoints();
        addRanges();
        addLengths();
        addFields();
        addTwoAtOnce();
    }

    Iterable<String> methods() {
        return byMethod.keySet();
    }

    List<Refusal> of(String method) {
        return byMethod.get(method);
    }

    private void addPoints() {
        for (int p : NO_POINTS) {
            add("get", p + ", 0", x -> x.get(p, 0));
            add("get", p + ", 7", x -> x.get(p, 7));
            add("change", p + ", 0", x -> x.change(p, 0));
            add("change", p + ", 7", x -> x.change(p, 7));
            add("alike", p + ", 0", x -> x.alike(p, 0) ? 1 : 0);
            add("alike", "0, " + p, x -> x.alike(0, p) ? 1 : 0);
            add("alike", p + ", " + p, x -> x.alike(p, p) ? 1 : 0);
            add("alike", p + ", last", x -> x.alike(p, LAST) ? 1 : 0);
            add("alike", "last, " + p, x -> x.alike(LAST, p) ? 1 : 0);
        }
    }

    private void addRanges() {
        for (int[] range : NO_RANGES) {
            int first = range[0];
            int last = range[1];
            String text = first + ", " + last + ", 2";
            add("set", text + ", 77", x -> x.set(first, last, 2, 77));
            add("mark", text + ", 64, -1", x -> x.mark(first, last, 2, 64, -1));
            add("hash", text, x -> x.hash(first, last, 2));
        }
    }

    private void addLengths() {
        for (int[] range : TOO_LONG_TO_HASH) {
            add("hash", range[0] + ", " + range[1] + ", 2", x -> x.hash(range[0], range[1], 2));
        }
    }

    private void addFields() {
        for (int field : NO_FIELDS) {
            add("set", "0, last, " + field + ", 77", x -> x.set(0, LAST, field, 77));
            add("set", "0, 0, " + field + ", 77", x -> x.set(0, 0, field, 77));
            add("mark", "0, last, " + field + ", 64, -1", x -> x.mark(0, LAST, field, 64, -1));
            add("mark", "last, last, " + field + ", 64, 0", x -> x.mark(LAST, LAST, field, 64, 0));
            add("get", "0, " + field, x -> x.get(0, field));
            add("get", "last, " + field, x -> x.get(LAST, field));
            add("change", "0, " + field, x -> x.change(0, field));
            add("change", "last, " + field, x -> x.change(LAST, field));
            add("hash", "0, 0, " + field, x -> x.hash(0, 0, field));
            add("hash", "last - 3999, last, " + field, x -> x.hash(LAST - 3999, LAST, field));
        }
    }

    private void addTwoAtOnce() {
        add("set", "-1, last + 1, 8, 77", x -> x.set(-1, LAST + 1, 8, 77));
        add("mark", "1, 0, -1, 64, -1", x -> x.mark(1, 0, -1, 64, -1));
        add("get", "-1, 8", x -> x.get(-1, 8));
        add("get", "last + 1, -1", x -> x.get(LAST + 1, -1));
        add("change", "last + 1, 8", x -> x.change(LAST + 1, 8));
        add("alike", "-1, last + 1", x -> x.alike(-1, LAST + 1) ? 1 : 0);
        add("hash", "0, 4000, 8", x -> x.hash(0, 4000, 8));
        add("hash", "-1, 4000, 0", x -> x.hash(-1, 4000, 0));
    }

    private void add(String method, String numbers, ToLongFunction<PropertyTrie> call) {
        byMethod.computeIfAbsent(method, m -> new ArrayList<>()).add(new Refusal(method + "(" + numbers + ")", call));
    }
}
