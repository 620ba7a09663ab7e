import java.util.Random;

/** Objects used to their 512th call in the dearest ways, and past it. */
public final class LimitsTest {
    private static final int LAST = Plain.POINTS - 1;
    private static final int CALLS = 512;

    /** The i-th of a run of changes. */
    private enum Way {
        /** Each range begins and ends inside blocks of its own. */
        APART {
            int first(int i) { return 2048 * i + 517; }
            int last(int i) { return 2048 * i + 1541; }
            int field(int i) { return i % 8; }
            int v(int i) { return i + 1; }
            int kept(int i) { return 0; }
        },
        /** As many records as can be: the left and the right side of each range have their own. */
        NESTED {
            int first(int i) { return i == 0 ? 557056 : 1031 * i; }
            int last(int i) { return i == 0 ? LAST : LAST - 1031 * i; }
            int field(int i) { return i == 0 ? 1 : 0; }
            int v(int i) { return i + 1; }
            int kept(int i) { return 0; }
        },
        /** Many records, and then changes that make others of all of them. */
        ALL_ANEW {
            int first(int i) { return i < 400 ? NESTED.first(i) : 0; }
            int last(int i) { return i < 400 ? NESTED.last(i) : LAST; }
            int field(int i) { return i < 400 ? NESTED.field(i) : 2 + i % 6; }
            int v(int i) { return i + 1; }
            int kept(int i) { return i < 400 ? 0 : 0x55; }
        },
        /** Pieces of one point each. */
        CROWDED {
            int first(int i) { return 2 * (i * 37 % CALLS); }
            int last(int i) { return first(i); }
            int field(int i) { return i % 8; }
            int v(int i) { return ~i; }
            int kept(int i) { return 0; }
        },
        /** One range over and over: what it drops must be there for the next. */
        OVER {
            int first(int i) { return 700; }
            int last(int i) { return 900000; }
            int field(int i) { return i % 3; }
            int v(int i) { return i; }
            int kept(int i) { return 1024; }
        };

        abstract int first(int i);
        abstract int last(int i);
        abstract int field(int i);
        abstract int v(int i);
        abstract int kept(int i);
    }

    private final Checks checks = new Checks();

    public static void main(String[] args) {
        LimitsTest test = new LimitsTest();
        test.usedForAllCalls();
        test.checks.about("what later calls answer is free, but nothing is thrown by itself", test::pastTheLastCall);
        test.checks.finish();
    }

    private void usedForAllCalls() {
        String sentence = "An object is used for at most 512 calls: ";
        for (Way way : Way.values()) {
            checks.about(sentence + "the last asks, " + way, () -> lastCalls(way));
            checks.about(sentence + "the last is of any kind, " + way, () -> lastCallOfEachKind(way));
        }
        checks.about(sentence + "some of them throw", this::refusedCalls);
        checks.about(sentence + "many change, and one between them clears", this::roomAfterClearing);
        checks.about(sentence + "a quarter of them clear, or all", this::manyClearings);
    }

    /** New objects, each with 511 changes and one question: half of them about the last changes. */
    private void lastCalls(Way way) {
        int changes = CALLS - 1;
        Plain plain = new Plain();
        for (int i = 0; i < changes; i++) {
            plain.mark(way.first(i), way.last(i), way.field(i), way.v(i), way.kept(i));
        }
        Random random = new Random(7);
        for (int round = 0; round < 120; round++) {
            PropertyTrie x = new PropertyTrie();
            makeChanges(x, way, 0, changes);
            int i = round % 2 == 0 ? changes - 1 - round / 8 : random.nextInt(changes);
            int p = Math.min(LAST, random.nextBoolean() ? way.first(i) : way.last(i) + random.nextInt(2));
            int field = random.nextInt(3) == 0 ? random.nextInt(8) : way.field(i);
            ask(way + " after all changes: ", x, plain, round / 2 % 4, p, field);
        }
    }

    private void makeChanges(PropertyTrie x, Way way, int from, int to) {
        for (int i = from; i < to; i++) {
            checks.due(way + " mark " + i, x.mark(way.first(i), way.last(i), way.field(i), way.v(i), way.kept(i)),
                    way.last(i) - way.first(i) + 1);
        }
    }

    private void ask(String where, PropertyTrie x, Plain plain, int question, int p, int field) {
        int from = Math.max(0, p - 1400);
        int to = Math.min(LAST, p + 1400);
        String what = where + p + ", " + field;
        switch (question) {
            case 0 -> checks.due(what + " get", x.get(p, field), plain.get(p, field));
            case 1 -> checks.due(what + " change", x.change(p, field), plain.change(p, field));
            case 2 -> checks.due(what + " alike", x.alike(p, from), plain.alike(p, from));
            default -> checks.due(what + " hash", x.hash(from, to, field), plain.hash(from, to, field));
        }
    }

    /** The 512th call may be any: a change, a clearing, a call that throws. */
    private void lastCallOfEachKind(Way way) {
        int changes = CALLS - 1;
        Plain plain = new Plain();
        for (int i = 0; i < changes; i++) {
            plain.mark(way.first(i), way.last(i), way.field(i), way.v(i), way.kept(i));
        }
        checks.due("the last: set", changed(way, changes).set(1, LAST - 1, 0, -9), LAST - 1);
        checks.due("the last: mark", changed(way, changes).mark(1, LAST - 1, 0, -9, 7), LAST - 1);
        checks.due("the last: get", changed(way, changes).get(0, 0), plain.get(0, 0));
        checks.due("the last: change", changed(way, changes).change(0, 0), plain.change(0, 0));
        checks.due("the last: alike", changed(way, changes).alike(0, LAST), plain.alike(0, LAST));
        checks.due("the last: hash", changed(way, changes).hash(0, 3999, 0), plain.hash(0, 3999, 0));
        PropertyTrie x = changed(way, changes);
        checks.refused("the last: set(0, last + 1)", () -> x.set(0, LAST + 1, 0, 1));
        PropertyTrie y = changed(way, changes - 1);
        y.set(1, LAST - 1, 0, -9);
        checks.due("the last: get of what the last but one set", y.get(LAST - 1, 0), -9);
        PropertyTrie z = changed(way, changes - 1);
        z.clear();
        checks.due("the last: change of what the last but one cleared", z.change(0, way.field(0)), -1);
        checks.due("the last: clear", changed(way, changes).clear(), plain.clear());
    }

    private PropertyTrie changed(Way way, int changes) {
        PropertyTrie x = new PropertyTrie();
        makeChanges(x, way, 0, changes);
        return x;
    }

    /** Calls that throw, between changes and up to the last but one. */
    private void refusedCalls() {
        PropertyTrie x = new PropertyTrie();
        Plain plain = new Plain();
        Way way = Way.NESTED;
        for (int i = 0; i < 170; i++) {
            int change = i;
            checks.refused("set " + i, () -> x.set(way.first(change), LAST + 1, 0, 1));
            checks.refused("mark " + i, () -> x.mark(0, LAST, 8, 1, -1));
            makeChanges(x, way, i, i + 1);
            plain.mark(way.first(i), way.last(i), way.field(i), way.v(i), way.kept(i));
        }
        checks.refused("hash", () -> x.hash(0, 4000, 0));
        checks.due("the last: hash", x.hash(0, 3999, 0), plain.hash(0, 3999, 0));
    }

    /** Clearing must give back all the room that the changes before it had taken. */
    private void roomAfterClearing() {
        PropertyTrie x = new PropertyTrie();
        makeChanges(x, Way.NESTED, 0, 370);
        x.clear();
        Plain plain = new Plain();
        for (int i = 0; i < 120; i++) {
            int way = i < 100 ? i : 300 + i;
            makeChanges(x, Way.ALL_ANEW, way, way + 1);
            plain.mark(Way.ALL_ANEW.first(way), Way.ALL_ANEW.last(way), Way.ALL_ANEW.field(way),
                    Way.ALL_ANEW.v(way), Way.ALL_ANEW.kept(way));
        }
        for (int i = 0; i < 20; i++) {
            ask("after clearing: ", x, plain, i % 4, Way.NESTED.first(99 - i), i % 8);
        }
    }

    private void manyClearings() {
        PropertyTrie x = new PropertyTrie();
        for (int i = 0; i < CALLS / 4; i++) {
            x.set(i, i + 8 * i, i % 8, i + 1);
            x.mark(i, LAST - i, 3, i + 1, 0);
            checks.due("get in round " + i, x.get(i, 3), i + 1);
            checks.due("clear in round " + i, x.clear(), 1024 - i);
        }
        PropertyTrie y = new PropertyTrie();
        for (int i = 0; i < CALLS; i++) {
            checks.due("clear number " + i, y.clear(), 0);
        }
    }

    /** What these calls answer is free, but they must end, and throw nothing but what is said. */
    private void pastTheLastCall() {
        for (int seed = 0; seed < 6; seed++) {
            Random random = new Random(seed);
            PropertyTrie x = new PropertyTrie();
            try {
                for (int i = 0; i < 4000; i++) {
                    int p = random.nextInt(LAST + 1);
                    int last = seed % 2 == 0 ? p + random.nextInt(LAST + 1 - p) : Math.min(LAST, p + 2000);
                    x.mark(p, last, i % 8, random.nextInt(), seed < 3 ? 0 : -1);
                    if (i % 50 == 0) {
                        x.get(p, 1);
                        x.change(p, 2);
                        x.alike(p, last);
                        x.hash(p, Math.min(p + 3999, LAST), 3);
                    }
                    if (i == 3000) {
                        x.clear();
                    }
                }
            } catch (RuntimeException e) {
                checks.fault("past the last call: " + e);
            }
            checks.refused("past the last call: get(-1, 0)", () -> x.get(-1, 0));
        }
    }
}
