import java.util.Random;

/** Objects used to their 512th call in the dearest ways, and past it. */
public final class LimitsTest {
    private static final int LAST = Plain.POINTS - 1;
    private static final int CALLS = 512;

    /** The i-th of a run of changes. */
    private enum Way {
        /** Each range begins and ends inside blocks of its own. */
        APART {
            int first(int i) { return 2048 * i + 517; }
            int last(int i) { return 2048 * i + 1541; }
            int field(int i) { return i % 8; }
            int v(int i) { return i + 1; }
            int kept(int i) { return 0; }
        },
        /** As many records as can be: the left and the right side of each range have their own. */
        NESTED {
            int first(int i) { return i == 0 ? 557056 : 1031 * i; }
            int last(int i) { return i == 0 ? LAST : LAST - 1031 * i; }
            int field(int i) { return i == 0 ? 1 : 0; }
            int v(int i) { return i + 1; }
            int kept(int i) { return 0; }
        },
        /** Many records, and then changes that make others of all of them. */
        ALL_ANEW {
            int first(int i) { return i < 400 ? NESTED.first(i) : 0; }
            int last(int i) { return i < 400 ? NESTED.last(i) : LAST; }
            int field(int i) { return i < 400 ? NESTED.field(i) : 2 + i % 6; }
            int v(int i) { return i + 1; }
            int kept(int i) { return i < 400 ? 0 : 0x55; }
        },
        /** Pieces of one point each. */
        CROWDED {
            int first(int i) { return 2 * (i * 37 % CALLS); }
            int last(int i) { return first(i); }
            int field(int i) { return i % 8; }
            int v(int i) { return ~i; }
            int kept(int i) { return 0; }
        },
        /** One range over and over: what it drops must be there for the next. */
        OVER {
            int first(int i) { return 700; }
            int last(int i) { return 900000; }
            int field(int i) { return i % 3; }
            int v(int i) { return i; }
            int kept(int i) { return 1024; }
        };

        abstract int first(int i);
        abstract int last(int i);
        abstract int field(int i);
        abstract int v(int i);
        abstract int kept(int i);
    }

    private final Checks checks = new Checks();

    public static void main(String[] args) {
        LimitsTest test = new LimitsTest();
        for (Way way : Way.values()) {
            test.lastCalls(way);
        }
        test.roomAfterClearing();
        test.manyClearings();
        test.pastTheLastCall();
        test.checks.finish();
    }

    /** New objects, each with 511 changes and one question: half of them about the last changes. */
    private void lastCalls(Way way) {
        int changes = CALLS - 1;
        Plain plain = new Plain();
        for (int i = 0; i < changes; i++) {
            plain.mark(way.first(i), way.last(i), way.field(i), way.v(i), way.kept(i));
        }
        Random random = new Random(7);
        for (int round = 0; round < 120; round++) {
            PropertyTrie x = new PropertyTrie();
            makeChanges(x, way, 0, changes);
            int i = round % 2 == 0 ? changes - 1 - round / 8 : random.nextInt(changes);
            int p = Math.min(LAST, random.nextBoolean() ? way.first(i) : way.last(i) + random.nextInt(2));
            int field = random.nextInt(3) == 0 ? random.nextInt(8) : way.field(i);
            ask(way + " after all changes: ", x, plain, round / 2 % 4, p, field);
        }
    }

    private void makeChanges(PropertyTrie x, Way way, int from, int to) {
        for (int i = from; i < to; i++) {
            checks.due(way + " mark " + i, x.mark(way.first(i), way.last(i), way.field(i), way.v(i), way.kept(i)),
                    way.last(i) - way.first(i) + 1);
        }
    }

    private void ask(String where, PropertyTrie x, Plain plain, int question, int p, int field) {
        int from = Math.max(0, p - 1400);
        int to = Math.min(LAST, p + 1400);
        String what = where + p + ", " + field;
        switch (question) {
            case 0 -> checks.due(what + " get", x.get(p, field), plain.get(p, field));
            case 1 -> checks.due(what + " change", x.change(p, field), plain.change(p, field));
            case 2 -> checks.due(what + " alike", x.alike(p, from), plain.alike(p, from));
            default -> checks.due(what + " hash", x.hash(from, to, field), plain.hash(from, to, field));
        }
    }

    /** Clearing must give back all the room that the changes before it had taken. */
    private void roomAfterClearing() {
        PropertyTrie x = new PropertyTrie();
        makeChanges(x, Way.NESTED, 0, 370);
        x.clear();
        Plain plain = new Plain();
        for (int i = 0; i < 120; i++) {
            int way = i < 100 ? i : 300 + i;
            makeChanges(x, Way.ALL_ANEW, way, way + 1);
            plain.mark(Way.ALL_ANEW.first(way), Way.ALL_ANEW.last(way), Way.ALL_ANEW.field(way),
                    Way.ALL_ANEW.v(way), Way.ALL_ANEW.kept(way));
        }
        for (int i = 0; i < 20; i++) {
            ask("after clearing: ", x, plain, i % 4, Way.NESTED.first(99 - i), i % 8);
        }
    }

    private void manyClearings() {
        PropertyTrie x = new PropertyTrie();
        for (int i = 0; i < CALLS / 4; i++) {
            x.set(i, i + 8 * i, i % 8, i + 1);
            x.mark(i, LAST - i, 3, i + 1, 0);
            checks.due("get in round " + i, x.get(i, 3), i + 1);
            checks.due("clear in round " + i, x.clear(), 1024 - i);
        }
    }

    /** What these calls answer is free, but they must end, and throw nothing but what is said. */
    private void pastTheLastCall() {
        for (int seed = 0; seed < 6; seed++) {
            Random random = new Random(seed);
            PropertyTrie x = new PropertyTrie();
            try {
                for (int i = 0; i < 4000; i++) {
                    int p = random.nextInt(LAST + 1);
                    int last = seed % 2 == 0 ? p + random.nextInt(LAST + 1 - p) : Math.min(LAST, p + 2000);
                    x.mark(p, last, i % 8, random.nextInt(), seed < 3 ? 0 : -1);
                    if (i % 50 == 0) {
                        x.get(p, 1);
                        x.change(p, 2);
                        x.alike(p, last);
                        x.hash(p, Math.min(p + 3999, LAST), 3);
                    }
                    if (i == 3000) {
                        x.clear();
                    }
                }
            } catch (RuntimeException e) {
                checks.fault("past the last call: " + e);
            }
            checks.refused("past the last call: get(-1, 0)", () -> x.get(-1, 0));
        }
    }
}
