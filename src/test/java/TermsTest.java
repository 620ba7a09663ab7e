import java.util.ArrayList;
import java.util.List;

/** The boundary cases that the document's terms name, each for every method that they are about. */
public final class TermsTest {
    private static final int LAST = Plain.POINTS - 1;

    private final Checks checks = new Checks();
    private final Refusals refusals = new Refusals();

    public static void main(String[] args) {
        TermsTest test = new TermsTest();
        test.terms();
        for (String method : test.refusals.methods()) {
            test.throwing(method);
        }
        test.checks.finish();
    }

    private void terms() {
        checks.about("POINTS are 0 .. 1114111: 0 and 1114111 are points", this::firstAndLastPoint);
        checks.about("POINTS are 0 .. 1114111: -1 and 1114112 are none", this::pointsOutOfRange);
        checks.about("FIELDS 0 .. 7: 0 and 7 are fields", this::firstAndLastField);
        checks.about("FIELDS 0 .. 7: -1 and 8 are none", this::fieldsOutOfRange);
        checks.about("FIELDS .., ints: the least and the greatest too", this::fieldsAreInts);
        checks.about("FIELDS .., 0 at first: of a point that no call has named", this::zeroAtFirst);
    }

    private void throwing(String method) {
        checks.about("IllegalArgumentException: a number out of range: " + method,
                () -> whatIsThrown(method));
        checks.about("A call that throws changes nothing: " + method,
                () -> throwingChangesNothing(method));
        checks.about("A call that throws changes nothing: " + method + " as the first call",
                () -> throwingChangesNothingInANewObject(method));
        checks.about("A call that throws changes nothing: what follows " + method,
                () -> throwingTellsNothingToTheNextCall(method));
    }

    private void firstAndLastPoint() {
        for (int p : new int[] {0, LAST}) {
            PropertyTrie x = new PropertyTrie();
            checks.due("set(" + p + ")", x.set(p, p, 1, 6), 1);
            checks.due("mark(" + p + ")", x.mark(p, p, 1, 1, -1), 1);
            checks.due("get(" + p + ")", x.get(p, 1), 7);
            checks.due("change(" + p + ")", x.change(p, 1), p == 0 ? 1 : -1);
            checks.due("alike(" + p + ", 5)", x.alike(p, 5), false);
            checks.due("alike(5, " + p + ")", x.alike(5, p), false);
            checks.due("hash(" + p + ")", x.hash(p, p, 1), 38);
        }
    }

    private void pointsOutOfRange() {
        PropertyTrie x = new PropertyTrie();
        for (int p : Refusals.NO_POINTS) {
            checks.refused("set(" + p + ", last)", () -> x.set(p, LAST, 0, 0));
            checks.refused("set(0, " + p + ")", () -> x.set(0, p, 0, 0));
            checks.refused("set(p, p) of " + p, () -> x.set(p, p, 0, 0));
            checks.refused("mark(" + p + ", last)", () -> x.mark(p, LAST, 0, 0, -1));
            checks.refused("mark(0, " + p + ")", () -> x.mark(0, p, 0, 0, -1));
            checks.refused("mark(p, p) of " + p, () -> x.mark(p, p, 0, 0, -1));
            checks.refused("get(" + p + ")", () -> x.get(p, 0));
            checks.refused("change(" + p + ")", () -> x.change(p, 0));
            checks.refused("alike(" + p + ", 0)", () -> x.alike(p, 0) ? 1 : 0);
            checks.refused("alike(0, " + p + ")", () -> x.alike(0, p) ? 1 : 0);
            checks.refused("alike(p, p) of " + p, () -> x.alike(p, p) ? 1 : 0);
            checks.refused("hash(p, p) of " + p, () -> x.hash(p, p, 0));
        }
        checks.refused("hash(-1, 0)", () -> x.hash(-1, 0, 0));
        checks.refused("hash(last, last + 1)", () -> x.hash(LAST, LAST + 1, 0));
    }

    private void firstAndLastField() {
        for (int field : new int[] {0, 7}) {
            PropertyTrie x = new PropertyTrie();
            checks.due("set, field " + field, x.set(40, 50, field, 6), 11);
            checks.due("mark, field " + field, x.mark(40, 50, field, 1, -1), 11);
            checks.due("get, field " + field, x.get(50, field), 7);
            checks.due("get, field " + (7 - field), x.get(50, 7 - field), 0);
            checks.due("change, field " + field, x.change(0, field), 40);
            checks.due("change, field " + (7 - field), x.change(0, 7 - field), -1);
            checks.due("hash, field " + field, x.hash(50, 51, field), 31 * 38);
        }
    }

    private void fieldsOutOfRange() {
        PropertyTrie x = new PropertyTrie();
        for (int field : Refusals.NO_FIELDS) {
            for (int p : new int[] {0, 1024, LAST}) {
                String at = "(" + p + ", field " + field + ")";
                checks.refused("set" + at, () -> x.set(p, p, field, 0));
                checks.refused("mark" + at, () -> x.mark(p, p, field, 0, -1));
                checks.refused("get" + at, () -> x.get(p, field));
                checks.refused("change" + at, () -> x.change(p, field));
                checks.refused("hash" + at, () -> x.hash(p, p, field));
            }
        }
    }

    private void fieldsAreInts() {
        int[] ints = {Integer.MIN_VALUE, Integer.MAX_VALUE, -1, 1, Integer.MIN_VALUE + 1, 1 << 16, 255, 256, -129};
        for (int field = 0; field < 8; field++) {
            PropertyTrie x = new PropertyTrie();
            for (int v : ints) {
                x.set(1000, 2000, field, v);
                checks.due("get, set to " + v, x.get(1500, field), v);
                x.mark(1000, 2000, field, ~v, 0);
                checks.due("get, marked with " + ~v, x.get(1500, field), ~v);
            }
        }
    }

    private void zeroAtFirst() {
        PropertyTrie x = new PropertyTrie();
        x.set(0, 99, 0, 1);
        x.set(101, LAST, 7, -1);
        for (int field = 0; field < 8; field++) {
            checks.due("get(100, " + field + ")", x.get(100, field), 0);
        }
        x.mark(100, 100, 3, 0, -1);
        checks.due("get(100, 3), the kept bits of 0", x.get(100, 3), 0);
    }

    private void whatIsThrown(String method) {
        for (Refusals.Refusal refusal : refusals.of(method)) {
            PropertyTrie x = new PropertyTrie();
            checks.refused(refusal.text(), () -> refusal.call().applyAsLong(x));
            x.set(0, LAST, 2, 5);
            x.set(700, 800000, 0, 6);
            checks.refused(refusal.text() + " once there is something", () -> refusal.call().applyAsLong(x));
        }
    }

    private void throwingChangesNothing(String method) {
        Plain plain = new Plain();
        for (int[] change : filling()) {
            plain.set(change[0], change[1], change[2], change[3]);
        }
        WholeState state = new WholeState(plain);
        int counted = plain.clear();
        for (Refusals.Refusal refusal : refusals.of(method)) {
            PropertyTrie x = new PropertyTrie();
            for (int[] change : filling()) {
                x.set(change[0], change[1], change[2], change[3]);
            }
            checks.refused(refusal.text(), () -> refusal.call().applyAsLong(x));
            String where = "after " + refusal.text() + ": ";
            state.check(checks, where, x);
            checks.due(where + "alike(0, last)", x.alike(0, LAST), false);
            checks.due(where + "alike(0, 3)", x.alike(0, 3), true);
            checks.due(where + "clear()", x.clear(), counted);
        }
    }

    /** Every field gets pieces, also at 0 and at the last point, and some ends lie inside blocks. */
    private static List<int[]> filling() {
        List<int[]> changes = new ArrayList<>();
        for (int field = 0; field < 8; field++) {
            changes.add(new int[] {0, 3 + 40 * field, field, field + 1});
            changes.add(new int[] {900 + field, 70000, field, -5});
            changes.add(new int[] {LAST - field, LAST, field, 1 << field});
        }
        return changes;
    }

    private void throwingChangesNothingInANewObject(String method) {
        WholeState zeros = new WholeState(new Plain());
        for (Refusals.Refusal refusal : refusals.of(method)) {
            PropertyTrie x = new PropertyTrie();
            checks.refused(refusal.text(), () -> refusal.call().applyAsLong(x));
            zeros.check(checks, "after " + refusal.text() + ": ", x);
            checks.due("clear() after " + refusal.text(), x.clear(), 0);
        }
    }

    private void throwingTellsNothingToTheNextCall(String method) {
        for (Refusals.Refusal refusal : refusals.of(method)) {
            String after = " after " + refusal.text();
            PropertyTrie x = new PropertyTrie();
            x.set(10, 2000, 1, 4);
            checks.refused(refusal.text(), () -> refusal.call().applyAsLong(x));
            checks.due("mark" + after, x.mark(20, 3000, 1, 3, -1), 2981);
            checks.refused(refusal.text(), () -> refusal.call().applyAsLong(x));
            checks.due("get(19, 1)" + after, x.get(19, 1), 4);
            checks.due("get(20, 1)" + after, x.get(20, 1), 7);
            checks.due("change(20, 1)" + after, x.change(20, 1), 2001);
            checks.due("change(2001, 1)" + after, x.change(2001, 1), 3001);
            checks.due("clear()" + after, x.clear(), 1014);
            checks.refused(refusal.text(), () -> refusal.call().applyAsLong(x));
            checks.due("change(0, 1), cleared," + after, x.change(0, 1), -1);
        }
    }
}
