/** The boundary cases that promises 1 to 8 name, a test for each sentence or part of one. */
public final class BoundariesTest {
    private static final int LAST = Plain.POINTS - 1;
    private static final int MIN = Integer.MIN_VALUE;
    private static final int MAX = Integer.MAX_VALUE;

    /** Ranges of one point, of two, of whole blocks, of a block and one point, and all points. */
    private static final int[][] RANGES = {
        {0, 0}, {0, 1}, {1, 1}, {0, 30}, {0, 31}, {0, 32}, {31, 31}, {31, 32}, {32, 63}, {33, 62}, {255, 256},
        {0, 1022}, {0, 1023}, {0, 1024}, {1023, 1023}, {1023, 1024}, {1024, 1024}, {1024, 2047}, {1025, 2046},
        {1023, 2048}, {500, 70000}, {65535, 65536}, {1048575, 1048576}, {LAST - 1024, LAST - 1}, {LAST - 1023, LAST},
        {LAST - 32, LAST}, {LAST - 31, LAST}, {LAST - 1, LAST - 1}, {LAST - 1, LAST}, {LAST, LAST}, {1, LAST},
        {0, LAST - 1}, {1, LAST - 1}, {0, LAST},
    };

    private final Checks checks = new Checks();

    public static void main(String[] args) {
        BoundariesTest test = new BoundariesTest();
        test.promise1();
        test.promise2();
        test.promise3();
        test.promise4();
        test.promise5();
        test.promise6();
        test.promise7();
        test.promise8();
        test.checks.finish();
    }

    private void promise1() {
        checks.about("1: All FIELDS of all POINTS are 0", this::newObject);
    }

    private void promise2() {
        checks.about("2: 0 .. first .. last .. 1114111, the ends too, and first may be last", this::setRanges);
        checks.about("2: 0 .. first .. last .. 1114111, and no others: no range is empty", this::setRangesRefused);
        checks.about("2: field 0 .. 7", this::setFields);
        checks.about("2: FIELD of the POINTS first .. last is v, and of no other", this::setPoints);
        checks.about("2: .. is v: the least int, the greatest, and 0 again", this::setToAnyInt);
        checks.about("2: Answers how many POINTS, also if they have v already", this::setCounts);
    }

    private void promise3() {
        checks.about("3: Likewise: the range's ends, and no point outside", this::markRanges);
        checks.about("3: Likewise: field 0 .. 7", this::markFields);
        checks.about("3: it keeps the bits of kept, and gets those of v besides: (it & kept) | v", this::markBits);
        checks.about("3: it keeps: each point its own bits", this::markOnPointsOfManyKinds);
        checks.about("3: Likewise: how many POINTS, also if none becomes another", this::markCounts);
    }

    private void promise4() {
        checks.about("4: The FIELD of a POINT, the first and the last of both too", this::getEdges);
        checks.about("4: get of what is no POINT or no FIELD", this::getRefused);
    }

    private void promise5() {
        checks.about("5: The first POINT .. whose FIELD is not what p's is", this::changeFirst);
        checks.about("5: from p on: what lies before p doesn't count", this::changeFromPOn);
        checks.about("5: whose FIELD: another field doesn't count, nor do pieces that are equal",
                this::changeOfTheField);
        checks.about("5: -1 if there is none", this::changeNone);
        checks.about("5: p (0 .. 1114111)", this::changeRefused);
    }

    private void promise6() {
        checks.about("6: two POINTS: the first and the last, a point and itself, in either order", this::alikeEdges);
        checks.about("6: the same in all FIELDS: one that is not is enough, by any bit", this::alikeInAllFields);
        checks.about("6: the same in all FIELDS: by whatever calls they came to it", this::alikeByOtherWays);
        checks.about("6: alike of what is no POINT", this::alikeRefused);
    }

    private void promise7() {
        checks.about("7: Over the POINTS first .. last: both ends, and none outside", this::hashRanges);
        checks.about("7: at most 4000 (else IllegalArgumentException)", this::hashLength);
        checks.about("7: from h 1 on, 31 h + FIELD", this::hashFromOne);
        checks.about("7: it wraps", this::hashWraps);
        checks.about("7: FIELD: the one that is asked for, 0 .. 7", this::hashFields);
    }

    private void promise8() {
        checks.about("8: All FIELDS of all POINTS are 0 again", this::clearAll);
        checks.about("8: .. again: an object that has been cleared is as a new one", this::clearAgain);
        checks.about("8: Answers how many POINTS below 1024", this::clearCountsBelow1024);
        checks.about("8: had something else: a point that has come back to 0 doesn't count",
                this::clearCountsSomethingElse);
        checks.about("8: in any FIELD: one is enough, and a point counts once", this::clearCountsAnyField);
    }

    private void newObject() {
        PropertyTrie other = new PropertyTrie();
        for (int field = 0; field < 8; field++) {
            other.set(100 * field, LAST - field, field, -1);
            PropertyTrie x = new PropertyTrie();
            for (int first = 0; first <= LAST; first += 4000) {
                int last = Math.min(LAST, first + 3999);
                checks.due("hash(" + first + ", " + last + ", " + field + ")", x.hash(first, last, field),
                        power31(last - first + 1));
            }
            checks.due("get(0, " + field + ")", x.get(0, field), 0);
            checks.due("get(last, " + field + ")", x.get(LAST, field), 0);
            checks.due("change(0, " + field + ")", x.change(0, field), -1);
        }
        PropertyTrie x = new PropertyTrie();
        checks.due("alike(0, last)", x.alike(0, LAST), true);
        checks.due("clear()", x.clear(), 0);
    }

    private static int power31(int times) {
        int h = 1;
        for (int i = 0; i < times; i++) {
            h *= 31;
        }
        return h;
    }

    private void setRanges() {
        for (int[] range : RANGES) {
            PropertyTrie x = new PropertyTrie();
            checks.due("set(" + range[0] + ", " + range[1] + ")", x.set(range[0], range[1], 4, 5),
                    range[1] - range[0] + 1);
            checks.due("get(" + range[0] + ")", x.get(range[0], 4), 5);
            checks.due("get(" + range[1] + ")", x.get(range[1], 4), 5);
        }
    }

    private void setRangesRefused() {
        PropertyTrie x = new PropertyTrie();
        for (int[] range : Refusals.NO_RANGES) {
            checks.refused("set(" + range[0] + ", " + range[1] + ")", () -> x.set(range[0], range[1], 0, 1));
        }
        for (int p : new int[] {1, 32, 1024, 5000, LAST}) {
            checks.refused("set(" + p + ", " + (p - 1) + ")", () -> x.set(p, p - 1, 0, 1));
        }
        checks.due("change(0, 0)", x.change(0, 0), -1);
        checks.due("get(0, 0)", x.get(0, 0), 0);
    }

    private void setFields() {
        PropertyTrie x = new PropertyTrie();
        for (int field = 0; field < 8; field++) {
            checks.due("set, field " + field, x.set(9, 11, field, field + 1), 3);
        }
        for (int field = 0; field < 8; field++) {
            checks.due("get(10, " + field + ")", x.get(10, field), field + 1);
        }
        for (int field : Refusals.NO_FIELDS) {
            checks.refused("set, field " + field, () -> x.set(9, 11, field, 1));
        }
    }

    private void setPoints() {
        for (int[] range : RANGES) {
            for (int before : new int[] {0, 3}) {
                PropertyTrie x = new PropertyTrie();
                x.set(0, LAST, 4, before);
                x.set(range[0], range[1], 4, 5);
                lookAtEnds(x, range, before, 5);
                checks.due("get(first, 3) of " + range[0], x.get(range[0], 3), 0);
                checks.due("get(last, 5) of " + range[1], x.get(range[1], 5), 0);
            }
        }
    }

    /** Field 4 is inside in the range, and outside before and behind it. */
    private void lookAtEnds(PropertyTrie x, int[] range, int outside, int inside) {
        int first = range[0];
        int last = range[1];
        String of = " of " + first + " .. " + last;
        checks.due("get(first, 4)" + of, x.get(first, 4), inside);
        checks.due("get(last, 4)" + of, x.get(last, 4), inside);
        checks.due("get(between, 4)" + of, x.get((first + last) / 2, 4), inside);
        checks.due("change(first, 4)" + of, x.change(first, 4), last == LAST ? -1 : last + 1);
        if (first > 0) {
            checks.due("get(0, 4)" + of, x.get(0, 4), outside);
            checks.due("get(first - 1, 4)" + of, x.get(first - 1, 4), outside);
            checks.due("change(0, 4)" + of, x.change(0, 4), first);
        }
        if (last < LAST) {
            checks.due("get(last + 1, 4)" + of, x.get(last + 1, 4), outside);
            checks.due("change(last + 1, 4)" + of, x.change(last + 1, 4), -1);
        }
    }

    private void setToAnyInt() {
        PropertyTrie x = new PropertyTrie();
        for (int v : new int[] {MIN, MAX, -1, 1, 0, MIN + 1, MAX - 1, 0}) {
            x.set(30, 1030, 6, v);
            checks.due("get(30, 6), set to " + v, x.get(30, 6), v);
            checks.due("get(1030, 6), set to " + v, x.get(1030, 6), v);
            checks.due("change(0, 6), set to " + v, x.change(0, 6), v == 0 ? -1 : 30);
        }
    }

    private void setCounts() {
        PropertyTrie x = new PropertyTrie();
        for (int v : new int[] {0, 7, 7, 0}) {
            checks.due("set(last, last) to " + v, x.set(LAST, LAST, 0, v), 1);
            checks.due("set(0, 0) to " + v, x.set(0, 0, 0, v), 1);
            checks.due("set(6, 7) to " + v, x.set(6, 7, 0, v), 2);
            checks.due("set(0, 1023) to " + v, x.set(0, 1023, 0, v), 1024);
            checks.due("set(1, last) to " + v, x.set(1, LAST, 0, v), 1114111);
            checks.due("set(0, last) to " + v, x.set(0, LAST, 0, v), 1114112);
        }
    }

    private void markRanges() {
        for (int[] range : RANGES) {
            PropertyTrie x = new PropertyTrie();
            x.set(0, LAST, 4, 9);
            checks.due("mark(" + range[0] + ", " + range[1] + ")", x.mark(range[0], range[1], 4, 2, 8),
                    range[1] - range[0] + 1);
            lookAtEnds(x, range, 9, 10);
        }
        PropertyTrie x = new PropertyTrie();
        for (int[] range : Refusals.NO_RANGES) {
            checks.refused("mark(" + range[0] + ", " + range[1] + ")", () -> x.mark(range[0], range[1], 0, 1, -1));
        }
    }

    private void markFields() {
        PropertyTrie x = new PropertyTrie();
        for (int field = 0; field < 8; field++) {
            checks.due("mark, field " + field, x.mark(9, 11, field, field + 1, -1), 3);
        }
        for (int field = 0; field < 8; field++) {
            checks.due("get(10, " + field + ")", x.get(10, field), field + 1);
        }
        for (int field : Refusals.NO_FIELDS) {
            checks.refused("mark, field " + field, () -> x.mark(9, 11, field, 1, 0));
        }
    }

    private void markBits() {
        int[] ints = {0, 1, -1, MIN, MAX, 0x55555555, 0xaaaaaaaa, 6, -8};
        for (int it : ints) {
            PropertyTrie x = new PropertyTrie();
            for (int kept : ints) {
                for (int v : ints) {
                    x.set(70, 70, 1, it);
                    x.mark(70, 70, 1, v, kept);
                    checks.due("get, " + it + " marked with " + v + ", kept " + kept, x.get(70, 1), (it & kept) | v);
                }
            }
        }
        for (int bit = 0; bit < 32; bit++) {
            PropertyTrie x = new PropertyTrie();
            markOneBit(x, 1 << bit);
        }
    }

    private void markOneBit(PropertyTrie x, int bit) {
        x.mark(70, 70, 1, bit, -1);
        checks.due("get, gets bit " + bit, x.get(70, 1), bit);
        x.mark(70, 70, 1, 0, bit);
        checks.due("get, keeps bit " + bit, x.get(70, 1), bit);
        x.mark(70, 70, 1, ~bit, 0);
        checks.due("get, keeps none and gets all but " + bit, x.get(70, 1), ~bit);
        x.mark(70, 70, 1, 0, bit);
        checks.due("get, keeps bit " + bit + " that it has not", x.get(70, 1), 0);
        x.set(70, 70, 1, -1);
        x.mark(70, 70, 1, 0, ~bit);
        checks.due("get, keeps all but " + bit, x.get(70, 1), ~bit);
        x.mark(70, 70, 1, bit, ~bit);
        checks.due("get, gets " + bit + " besides", x.get(70, 1), -1);
    }

    private void markOnPointsOfManyKinds() {
        PropertyTrie x = new PropertyTrie();
        for (int i = 0; i < 64; i++) {
            x.set(100 * i, 100 * i + 49, 2, i);
        }
        checks.due("mark(0, last)", x.mark(0, LAST, 2, 128, 60), LAST + 1);
        for (int i = 0; i < 64; i++) {
            checks.due("get(" + 100 * i + ", 2)", x.get(100 * i, 2), (i & 60) | 128);
            checks.due("get(" + (100 * i + 50) + ", 2)", x.get(100 * i + 50, 2), 128);
        }
        checks.due("change(400, 2): 4 .. 7 are the same, but for the points between", x.change(400, 2), 450);
        checks.due("alike(400, 700)", x.alike(400, 700), true);
    }

    private void markCounts() {
        PropertyTrie x = new PropertyTrie();
        checks.due("mark(0, last, 0, 0, -1)", x.mark(0, LAST, 0, 0, -1), 1114112);
        checks.due("mark(0, last, 0, 0, 0)", x.mark(0, LAST, 0, 0, 0), 1114112);
        checks.due("mark(last, last, 0, 5, 5)", x.mark(LAST, LAST, 0, 5, 5), 1);
        checks.due("mark(last, last, 0, 5, 5) again", x.mark(LAST, LAST, 0, 5, 5), 1);
        checks.due("mark(0, 0, 0, 0, MIN)", x.mark(0, 0, 0, 0, MIN), 1);
        checks.due("change(0, 0)", x.change(0, 0), LAST);
    }

    private void getEdges() {
        PropertyTrie x = new PropertyTrie();
        int[] points = {0, 1, 31, 32, 1023, 1024, 65535, 65536, LAST - 1, LAST};
        for (int field = 0; field < 8; field++) {
            for (int i = 0; i < points.length; i++) {
                x.set(points[i], points[i], field, 100 * field + i + 1);
            }
        }
        for (int field = 0; field < 8; field++) {
            for (int i = 0; i < points.length; i++) {
                String at = "get(" + points[i] + ", " + field + ")";
                checks.due(at, x.get(points[i], field), 100 * field + i + 1);
                checks.due(at + " again", x.get(points[i], field), 100 * field + i + 1);
            }
            checks.due("get(2, " + field + ")", x.get(2, field), 0);
            checks.due("get(last - 2, " + field + ")", x.get(LAST - 2, field), 0);
        }
    }

    private void getRefused() {
        PropertyTrie x = new PropertyTrie();
        x.set(0, LAST, 0, 4);
        for (int p : Refusals.NO_POINTS) {
            checks.refused("get(" + p + ", 0)", () -> x.get(p, 0));
        }
        for (int field : Refusals.NO_FIELDS) {
            checks.refused("get(0, " + field + ")", () -> x.get(0, field));
            checks.refused("get(last, " + field + ")", () -> x.get(LAST, field));
        }
    }

    private void changeFirst() {
        for (int[] range : RANGES) {
            for (int[] values : new int[][] {{0, 1}, {1, 0}, {-1, MIN}, {MAX, MIN}, {0, MIN}}) {
                changeAround(range[0], range[1], values[0], values[1]);
            }
        }
        PropertyTrie x = new PropertyTrie();
        x.set(1, 1, 0, 1);
        x.set(2, 2, 0, 2);
        x.set(LAST, LAST, 0, 3);
        checks.due("change(0, 0), the next point", x.change(0, 0), 1);
        checks.due("change(1, 0), each point another", x.change(1, 0), 2);
        checks.due("change(2, 0), 0 is not 2 either", x.change(2, 0), 3);
        checks.due("change(3, 0), the last point", x.change(3, 0), LAST);
    }

    private void changeAround(int first, int last, int outside, int inside) {
        PropertyTrie x = new PropertyTrie();
        x.set(0, LAST, 4, outside);
        x.set(first, last, 4, inside);
        lookAtEnds(x, new int[] {first, last}, outside, inside);
        checks.due("change(last, 4) of " + last, x.change(last, 4), last == LAST ? -1 : last + 1);
        if (first > 0) {
            checks.due("change(first - 1, 4) of " + first, x.change(first - 1, 4), first);
        }
    }

    private void changeFromPOn() {
        PropertyTrie x = new PropertyTrie();
        x.set(0, 99, 0, 1);
        x.set(3000, 3000, 0, 1);
        x.set(3000, 3000, 1, 1);
        checks.due("change(100, 0)", x.change(100, 0), 3000);
        checks.due("change(2999, 0)", x.change(2999, 0), 3000);
        checks.due("change(3000, 0)", x.change(3000, 0), 3001);
        checks.due("change(3001, 0)", x.change(3001, 0), -1);
        checks.due("change(99, 0)", x.change(99, 0), 100);
    }

    private void changeOfTheField() {
        for (int field = 0; field < 8; field++) {
            PropertyTrie x = new PropertyTrie();
            for (int other = 0; other < 8; other++) {
                if (other != field) {
                    x.set(50 + other, 90000 + other, other, 1);
                }
            }
            checks.due("change(0, " + field + ")", x.change(0, field), -1);
            x.set(10, 59, field, 6);
            x.set(60, 5000, field, 6);
            x.set(5001, 99999, field, 6);
            checks.due("change(10, " + field + ")", x.change(10, field), 100000);
            checks.due("change(60, " + field + ")", x.change(60, field), 100000);
            x.set(0, 9, field, 6);
            x.set(100000, LAST, field, 6);
            checks.due("change(0, " + field + "), all the same", x.change(0, field), -1);
        }
    }

    private void changeNone() {
        PropertyTrie x = new PropertyTrie();
        checks.due("change(0, 3), a new object", x.change(0, 3), -1);
        checks.due("change(last, 3), a new object", x.change(LAST, 3), -1);
        x.set(LAST, LAST, 3, 8);
        checks.due("change(last, 3), no point is behind it", x.change(LAST, 3), -1);
        checks.due("change(last - 1, 3)", x.change(LAST - 1, 3), LAST);
        x.set(0, LAST, 3, -1);
        checks.due("change(0, 3), all are -1", x.change(0, 3), -1);
        x.set(0, 2000, 3, 4);
        checks.due("change(2001, 3), only before it", x.change(2001, 3), -1);
        x.set(0, 2000, 3, -1);
        checks.due("change(0, 3), set back", x.change(0, 3), -1);
        x.set(5, 9, 3, 0);
        x.clear();
        checks.due("change(0, 3), cleared", x.change(0, 3), -1);
    }

    private void changeRefused() {
        PropertyTrie x = new PropertyTrie();
        x.set(0, LAST, 0, 4);
        for (int p : Refusals.NO_POINTS) {
            checks.refused("change(" + p + ", 0)", () -> x.change(p, 0));
        }
        for (int field : Refusals.NO_FIELDS) {
            checks.refused("change(0, " + field + ")", () -> x.change(0, field));
            checks.refused("change(last, " + field + ")", () -> x.change(LAST, field));
        }
        checks.due("change(0, 0)", x.change(0, 0), -1);
        checks.due("change(last, 0)", x.change(LAST, 0), -1);
    }

    private void alikeEdges() {
        PropertyTrie x = new PropertyTrie();
        checks.due("alike(0, last), new", x.alike(0, LAST), true);
        x.set(LAST, LAST, 7, 1);
        checks.due("alike(0, last)", x.alike(0, LAST), false);
        checks.due("alike(last, 0)", x.alike(LAST, 0), false);
        checks.due("alike(0, 0)", x.alike(0, 0), true);
        checks.due("alike(last, last)", x.alike(LAST, LAST), true);
        x.set(0, 0, 7, 1);
        checks.due("alike(0, last), both set", x.alike(0, LAST), true);
        checks.due("alike(last, 0), both set", x.alike(LAST, 0), true);
        checks.due("alike(0, 1)", x.alike(0, 1), false);
        checks.due("alike(1, 0)", x.alike(1, 0), false);
        x.set(1024, 2047, 0, 5);
        checks.due("alike(1023, 1024)", x.alike(1023, 1024), false);
        checks.due("alike(1024, 2047)", x.alike(1024, 2047), true);
        checks.due("alike(2047, 2048)", x.alike(2047, 2048), false);
        checks.due("alike(1023, 2048)", x.alike(1023, 2048), true);
    }

    private void alikeInAllFields() {
        for (int field = 0; field < 8; field++) {
            PropertyTrie x = new PropertyTrie();
            for (int bit = 0; bit < 32; bit++) {
                x.set(600, 600, field, 1 << bit);
                checks.due("alike(600, 90000), bit " + bit + " of field " + field, x.alike(600, 90000), false);
                x.set(600, 600, field, 0);
                checks.due("alike(600, 90000), field " + field + " 0 again", x.alike(600, 90000), true);
            }
        }
        alikeWithOtherOrders();
    }

    private void alikeWithOtherOrders() {
        for (int field = 0; field < 7; field++) {
            PropertyTrie x = new PropertyTrie();
            x.set(8, 8, field, 1);
            x.set(9, 9, field + 1, 31);
            x.set(10, 10, field + 1, 1);
            checks.due("alike(8, 9), 31 in the next field", x.alike(8, 9), false);
            checks.due("alike(8, 10), the same in the next field", x.alike(8, 10), false);
            x.set(8, 8, field + 1, -31);
            checks.due("alike(8, 7), fields that make up for each other", x.alike(8, 7), false);
        }
    }

    private void alikeByOtherWays() {
        PropertyTrie x = new PropertyTrie();
        for (int field = 0; field < 8; field++) {
            x.set(400, 500, field, field - 4);
            x.mark(LAST - 7 + field, LAST, 7 - field, 3 - field, 0);
        }
        checks.due("alike(450, last)", x.alike(450, LAST), true);
        checks.due("alike(450, last - 1)", x.alike(450, LAST - 1), false);
        x.set(0, LAST, 2, 8);
        checks.due("alike(450, last), both changed", x.alike(450, LAST), true);
        x.mark(450, 450, 2, 1, 8);
        checks.due("alike(450, last), one changed", x.alike(450, LAST), false);
        x.mark(450, 450, 2, 0, ~1);
        checks.due("alike(450, last), and changed back", x.alike(450, LAST), true);
        x.clear();
        checks.due("alike(450, last - 1), cleared", x.alike(450, LAST - 1), true);
    }

    private void alikeRefused() {
        PropertyTrie x = new PropertyTrie();
        for (int p : Refusals.NO_POINTS) {
            checks.refused("alike(" + p + ", 5)", () -> x.alike(p, 5) ? 1 : 0);
            checks.refused("alike(5, " + p + ")", () -> x.alike(5, p) ? 1 : 0);
            checks.refused("alike(p, p) of " + p, () -> x.alike(p, p) ? 1 : 0);
        }
    }

    private void hashRanges() {
        PropertyTrie x = new PropertyTrie();
        x.set(20, 20, 3, 5);
        x.set(0, 0, 3, 6);
        x.set(LAST, LAST, 3, 7);
        x.set(1023, 1024, 3, 8);
        checks.due("hash(20, 20)", x.hash(20, 20, 3), 36);
        checks.due("hash(19, 20)", x.hash(19, 20, 3), 31 * 31 + 5);
        checks.due("hash(20, 21)", x.hash(20, 21, 3), 31 * 36);
        checks.due("hash(21, 22)", x.hash(21, 22, 3), 31 * 31);
        checks.due("hash(18, 19)", x.hash(18, 19, 3), 31 * 31);
        checks.due("hash(0, 0)", x.hash(0, 0, 3), 37);
        checks.due("hash(0, 1)", x.hash(0, 1, 3), 31 * 37);
        checks.due("hash(last, last)", x.hash(LAST, LAST, 3), 38);
        checks.due("hash(last - 1, last)", x.hash(LAST - 1, LAST, 3), 31 * 31 + 7);
        checks.due("hash(1022, 1025)", x.hash(1022, 1025, 3), 31 * (31 * (31 * 31 + 8) + 8));
        checks.due("hash(1024, 1024)", x.hash(1024, 1024, 3), 39);
        for (int[] range : Refusals.NO_RANGES) {
            checks.refused("hash(" + range[0] + ", " + range[1] + ")", () -> x.hash(range[0], range[1], 3));
        }
    }

    private void hashLength() {
        PropertyTrie x = new PropertyTrie();
        for (int first : new int[] {0, 1, 31, 1000, 1024, 500000, LAST - 4000, LAST - 3999}) {
            checks.due("hash of 4000 from " + first, x.hash(first, first + 3999, 0), power31(4000));
            checks.due("hash of 3999 from " + first, x.hash(first, first + 3998, 0), power31(3999));
        }
        for (int first : new int[] {0, 1, 31, 1000, 1024, 500000, LAST - 4000}) {
            checks.refused("hash of 4001 from " + first, () -> x.hash(first, first + 4000, 0));
        }
        for (int[] range : Refusals.TOO_LONG_TO_HASH) {
            checks.refused("hash(" + range[0] + ", " + range[1] + ")", () -> x.hash(range[0], range[1], 0));
        }
        x.set(3999, 4000, 0, 9);
        checks.due("hash(0, 3999): the 4000th point counts", x.hash(0, 3999, 0), power31(4000) + 9);
        checks.due("hash(1, 4000)", x.hash(1, 4000, 0), power31(4000) + 31 * 9 + 9);
    }

    private void hashFromOne() {
        PropertyTrie x = new PropertyTrie();
        checks.due("hash of one 0", x.hash(3, 3, 5), 31);
        x.set(3, 3, 5, -31);
        checks.due("hash of one -31", x.hash(3, 3, 5), 0);
        x.set(4, 4, 5, 2);
        x.set(5, 5, 5, 3);
        checks.due("hash of -31, 2, 3", x.hash(3, 5, 5), 65);
        checks.due("hash of 2, 3", x.hash(4, 5, 5), 31 * 33 + 3);
        checks.due("hash of 2, 3 again", x.hash(4, 5, 5), 31 * 33 + 3);
        x.set(4, 4, 5, 3);
        x.set(5, 5, 5, 2);
        checks.due("hash of 3, 2", x.hash(4, 5, 5), 31 * 34 + 2);
    }

    private void hashWraps() {
        PropertyTrie x = new PropertyTrie();
        x.set(10, 10, 0, MAX);
        checks.due("hash of the greatest", x.hash(10, 10, 0), MIN + 30);
        x.set(10, 10, 0, MIN);
        checks.due("hash of the least", x.hash(10, 10, 0), MIN + 31);
        x.set(10, 10, 0, MAX - 31);
        checks.due("hash up to the greatest", x.hash(10, 10, 0), MAX);
        checks.due("hash of one more", x.hash(10, 11, 0), 31 * MAX);
        checks.due("hash of 7 zeros", x.hash(20, 26, 0), 1742810335);
        int h = 1;
        for (int i = 0; i < 100; i++) {
            int v = 0x7fffffce + i;
            x.set(100 + i, 100 + i, 7, v);
            h = 31 * h + v;
        }
        checks.due("hash of 100 numbers round the greatest", x.hash(100, 199, 7), h);
    }

    private void hashFields() {
        PropertyTrie x = new PropertyTrie();
        for (int field = 0; field < 8; field++) {
            x.set(50, 50, field, 10 + field);
        }
        for (int field = 0; field < 8; field++) {
            checks.due("hash(50, 50, " + field + ")", x.hash(50, 50, field), 41 + field);
        }
        for (int field : Refusals.NO_FIELDS) {
            checks.refused("hash(50, 50, " + field + ")", () -> x.hash(50, 50, field));
        }
    }

    private void clearAll() {
        for (int field = 0; field < 8; field++) {
            for (int[] range : RANGES) {
                PropertyTrie x = new PropertyTrie();
                x.set(range[0], range[1], field, -1);
                x.set(range[1], LAST, (field + 3) % 8, 1);
                x.clear();
                for (int any = 0; any < 8; any++) {
                    checks.due("get(0, " + any + ")", x.get(0, any), 0);
                    checks.due("get(last, " + any + ")", x.get(LAST, any), 0);
                    checks.due("change(0, " + any + ")", x.change(0, any), -1);
                }
                checks.due("alike(first, last)", x.alike(range[0], LAST), true);
            }
        }
    }

    private void clearAgain() {
        PropertyTrie x = new PropertyTrie();
        checks.due("clear() at first", x.clear(), 0);
        checks.due("clear() at second", x.clear(), 0);
        for (int round = 1; round <= 20; round++) {
            checks.due("mark in round " + round, x.mark(0, 1022 + round, 3, 4, -1), 1023 + round);
            checks.due("get(0, 3) in round " + round, x.get(0, 3), 4);
            checks.due("change(0, 3) in round " + round, x.change(0, 3), 1023 + round);
            checks.due("set in round " + round, x.set(round, 2000, 3, 0), 2001 - round);
            checks.due("change(0, 3) then", x.change(0, 3), round);
            checks.due("clear() in round " + round, x.clear(), round);
            checks.due("get(0, 3), cleared", x.get(0, 3), 0);
            checks.due("clear() twice in round " + round, x.clear(), 0);
        }
    }

    private void clearCountsBelow1024() {
        PropertyTrie x = new PropertyTrie();
        for (int[] range : RANGES) {
            x.set(range[0], range[1], 6, 1);
            int counted = Math.max(0, Math.min(1023, range[1]) - range[0] + 1);
            checks.due("clear() with " + range[0] + " .. " + range[1], x.clear(), counted);
        }
        x.set(1023, 1023, 0, 1);
        checks.due("clear() with 1023", x.clear(), 1);
        x.set(1024, 1024, 0, 1);
        checks.due("clear() with 1024", x.clear(), 0);
        x.set(0, LAST, 0, 1);
        checks.due("clear() with all points", x.clear(), 1024);
    }

    private void clearCountsSomethingElse() {
        PropertyTrie x = new PropertyTrie();
        x.set(0, LAST, 0, 0);
        checks.due("clear(), set to 0", x.clear(), 0);
        x.set(0, 1023, 5, 1);
        x.set(512, 1023, 5, 0);
        checks.due("clear(), half of them set back", x.clear(), 512);
        x.set(0, 1023, 5, 6);
        x.mark(0, 99, 5, 0, 1);
        checks.due("clear(), some marked back", x.clear(), 924);
        x.set(7, 7, 5, MIN);
        x.set(8, 8, 5, -1);
        checks.due("clear(), below 0 is something else", x.clear(), 2);
        x.set(3, 3, 1, 1);
        x.set(3, 3, 2, -1);
        checks.due("clear(), fields that make 0 together", x.clear(), 1);
        x.set(3, 3, 1, 1);
        x.set(3, 3, 2, -31);
        checks.due("clear(), fields that make up for each other", x.clear(), 1);
    }

    private void clearCountsAnyField() {
        PropertyTrie x = new PropertyTrie();
        for (int field = 0; field < 8; field++) {
            x.set(100, 109, field, 1);
            checks.due("clear(), field " + field, x.clear(), 10);
        }
        for (int field = 0; field < 8; field++) {
            x.set(100, 109, field, 1);
        }
        checks.due("clear(), the same points in all fields", x.clear(), 10);
        for (int field = 0; field < 8; field++) {
            x.set(100 + field, 100 + 2 * field, field, 1);
        }
        checks.due("clear(), points over each other", x.clear(), 15);
        for (int field = 0; field < 8; field++) {
            x.set(128 * field + 1, 128 * field + 1, field, 1);
        }
        checks.due("clear(), a point for each field", x.clear(), 8);
    }
}
