/** Each promise of the document by hand on ordinary inputs, with every answer counted out. */
public final class PromisesTest {
    private static final int LAST = 1114111;

    private final Checks checks = new Checks();

    public static void main(String[] args) {
        PromisesTest test = new PromisesTest();
        test.all();
        test.checks.finish();
    }

    private void all() {
        checks.about("1: a new object", this::newObject);
        checks.about("1: objects have nothing in common", this::objectsApart);
        checks.about("2: set", this::set);
        checks.about("2: set leaves the rest", this::setKeepsTheRest);
        checks.about("3: mark", this::mark);
        checks.about("4: get", this::get);
        checks.about("5: change", this::change);
        checks.about("5: change looks at one field", this::changeLooksAtOneField);
        checks.about("6: alike", this::alike);
        checks.about("7: hash", this::hash);
        checks.about("8: clear", this::clear);
        checks.about("8: clear counts", this::clearCounts);
    }

    private void newObject() {
        PropertyTrie x = new PropertyTrie();
        for (int field = 0; field < 8; field++) {
            checks.due("new: get(0, " + field + ")", x.get(0, field), 0);
            checks.due("new: get(last, " + field + ")", x.get(LAST, field), 0);
            checks.due("new: change(0, " + field + ")", x.change(0, field), -1);
        }
        checks.due("new: alike(0, last)", x.alike(0, LAST), true);
        checks.due("new: clear()", x.clear(), 0);
    }

    private void objectsApart() {
        PropertyTrie x = new PropertyTrie();
        x.set(0, LAST, 3, 4);
        PropertyTrie y = new PropertyTrie();
        checks.due("a second object: get(9, 3)", y.get(9, 3), 0);
        y.set(9, 9, 3, 6);
        checks.due("the first object: get(9, 3)", x.get(9, 3), 4);
    }

    private void set() {
        PropertyTrie x = new PropertyTrie();
        checks.due("set(65, 90, 0, 9)", x.set(65, 90, 0, 9), 26);
        checks.due("get(64, 0)", x.get(64, 0), 0);
        checks.due("get(65, 0)", x.get(65, 0), 9);
        checks.due("get(90, 0)", x.get(90, 0), 9);
        checks.due("get(91, 0)", x.get(91, 0), 0);
        checks.due("set(0, 0, 0, -1)", x.set(0, 0, 0, -1), 1);
        checks.due("get(0, 0)", x.get(0, 0), -1);
        checks.due("get(1, 0)", x.get(1, 0), 0);
        checks.due("set(last, last, 7, min)", x.set(LAST, LAST, 7, Integer.MIN_VALUE), 1);
        checks.due("get(last, 7)", x.get(LAST, 7), Integer.MIN_VALUE);
        checks.due("get(last - 1, 7)", x.get(LAST - 1, 7), 0);
        checks.due("set(0, last, 0, max)", x.set(0, LAST, 0, Integer.MAX_VALUE), LAST + 1);
        checks.due("change(0, 0)", x.change(0, 0), -1);
        checks.due("get(70, 0)", x.get(70, 0), Integer.MAX_VALUE);
        checks.due("set(70, 70, 0, 0)", x.set(70, 70, 0, 0), 1);
        checks.due("get(70, 0) is 0 again", x.get(70, 0), 0);
    }

    private void setKeepsTheRest() {
        PropertyTrie x = new PropertyTrie();
        for (int field = 0; field < 8; field++) {
            x.set(1000 + field, 3000 + field, field, 10 + field);
        }
        for (int field = 0; field < 8; field++) {
            String own = ", " + field + ")";
            checks.due("get(999 + field" + own, x.get(999 + field, field), 0);
            checks.due("get(1000 + field" + own, x.get(1000 + field, field), 10 + field);
            checks.due("get(2000" + own, x.get(2000, field), 10 + field);
            checks.due("get(3000 + field" + own, x.get(3000 + field, field), 10 + field);
            checks.due("get(3001 + field" + own, x.get(3001 + field, field), 0);
        }
    }

    private void mark() {
        PropertyTrie x = new PropertyTrie();
        checks.due("mark(0, 300, 1, 4, -1)", x.mark(0, 300, 1, 4, -1), 301);
        checks.due("mark(80, 700, 1, 3, -1)", x.mark(80, 700, 1, 3, -1), 621);
        checks.due("get(79, 1)", x.get(79, 1), 4);
        checks.due("get(80, 1)", x.get(80, 1), 7);
        checks.due("get(300, 1)", x.get(300, 1), 7);
        checks.due("get(301, 1)", x.get(301, 1), 3);
        checks.due("get(700, 1)", x.get(700, 1), 3);
        checks.due("get(701, 1)", x.get(701, 1), 0);
        checks.due("mark(0, 255, 1, 0, 4)", x.mark(0, 255, 1, 0, 4), 256);
        checks.due("get(80, 1), kept 4", x.get(80, 1), 4);
        checks.due("get(256, 1), not marked", x.get(256, 1), 7);
        checks.due("mark(last, last, 1, min, 0)", x.mark(LAST, LAST, 1, Integer.MIN_VALUE, 0), 1);
        checks.due("get(last, 1)", x.get(LAST, 1), Integer.MIN_VALUE);
        checks.due("mark(0, last, 1, 8, min | 3)", x.mark(0, LAST, 1, 8, Integer.MIN_VALUE | 3), LAST + 1);
        checks.due("get(0, 1)", x.get(0, 1), 8);
        checks.due("get(256, 1)", x.get(256, 1), 11);
        checks.due("get(last, 1)", x.get(LAST, 1), Integer.MIN_VALUE | 8);
        checks.due("mark(0, last, 1, 0, 0)", x.mark(0, LAST, 1, 0, 0), LAST + 1);
        checks.due("change(0, 1)", x.change(0, 1), -1);
        checks.due("mark, v and kept share bits", x.mark(5, 5, 1, 6, 12), 1);
        checks.due("get(5, 1)", x.get(5, 1), 6);
        checks.due("mark, v has a bit that is kept", x.mark(5, 5, 1, 5, 12), 1);
        checks.due("get(5, 1)", x.get(5, 1), 5);
        checks.due("get(5, 0), another field", x.get(5, 0), 0);
    }

    private void get() {
        PropertyTrie x = new PropertyTrie();
        int[] points = {0, 1, 31, 32, 255, 256, 1023, 1024, 65535, 65536, 1048575, 1048576, LAST};
        for (int i = 0; i < points.length; i++) {
            x.set(points[i], points[i], i % 8, 100 + i);
        }
        for (int i = 0; i < points.length; i++) {
            for (int field = 0; field < 8; field++) {
                checks.due("get(" + points[i] + ", " + field + ")", x.get(points[i], field),
                        field == i % 8 ? 100 + i : 0);
            }
        }
    }

    private void change() {
        PropertyTrie x = new PropertyTrie();
        x.set(255, 256, 3, 1);
        x.set(511, 512, 3, 1);
        x.set(1114111, 1114111, 3, 2);
        checks.due("change(0, 3)", x.change(0, 3), 255);
        checks.due("change(254, 3)", x.change(254, 3), 255);
        checks.due("change(255, 3)", x.change(255, 3), 257);
        checks.due("change(256, 3)", x.change(256, 3), 257);
        checks.due("change(257, 3)", x.change(257, 3), 511);
        checks.due("change(512, 3)", x.change(512, 3), 513);
        checks.due("change(513, 3)", x.change(513, 3), LAST);
        checks.due("change(last - 1, 3)", x.change(LAST - 1, 3), LAST);
        checks.due("change(last, 3)", x.change(LAST, 3), -1);
        checks.due("change(0, 2)", x.change(0, 2), -1);
        x.set(1, LAST, 4, -1);
        checks.due("change(0, 4)", x.change(0, 4), 1);
        checks.due("change(1, 4)", x.change(1, 4), -1);
        x.set(1024, 2047, 5, 6);
        checks.due("change(0, 5)", x.change(0, 5), 1024);
        checks.due("change(1024, 5)", x.change(1024, 5), 2048);
        checks.due("change(1500, 5)", x.change(1500, 5), 2048);
        checks.due("change(2048, 5)", x.change(2048, 5), -1);
    }

    private void changeLooksAtOneField() {
        PropertyTrie x = new PropertyTrie();
        x.set(100, 5000, 0, 1);
        x.set(300, 300, 1, 1);
        x.set(2000, 4000, 2, 1);
        checks.due("change(100, 0) over other fields' ends", x.change(100, 0), 5001);
        x.set(5001, 6000, 0, 1);
        checks.due("change(100, 0) over equal neighbours", x.change(100, 0), 6001);
        x.set(6001, 6001, 0, 0);
        checks.due("change(6001, 0)", x.change(6001, 0), -1);
    }

    private void alike() {
        PropertyTrie x = new PropertyTrie();
        x.set(0, LAST, 0, 7);
        x.set(65, 90, 0, 9);
        checks.due("alike(64, 91)", x.alike(64, 91), true);
        checks.due("alike(65, 90)", x.alike(65, 90), true);
        checks.due("alike(65, 64)", x.alike(65, 64), false);
        checks.due("alike(64, 65)", x.alike(64, 65), false);
        checks.due("alike(65, 65)", x.alike(65, 65), true);
        checks.due("alike(0, last)", x.alike(0, LAST), true);
        for (int field = 0; field < 8; field++) {
            x.set(70, 70, field, 70 + field);
            checks.due("alike(70, 71), field " + field, x.alike(70, 71), false);
            x.set(100000, 100000, field, 70 + field);
            checks.due("alike(70, 100000), field " + field, x.alike(70, 100000), true);
        }
        x.set(70, 70, 6, 0);
        checks.due("alike(70, 100000), field 6 set to 0", x.alike(70, 100000), false);
        x.set(100000, 100000, 6, 1);
        checks.due("alike(70, 100000), field 6 not the same", x.alike(70, 100000), false);
        x.mark(100000, 100000, 6, 0, 2);
        checks.due("alike(70, 100000), by other ways to the same", x.alike(70, 100000), true);
        x.set(200, 200, 0, 1);
        x.set(200, 200, 1, 2);
        x.set(201, 201, 0, 2);
        x.set(201, 201, 1, 1);
        checks.due("alike(200, 201), the same numbers in other fields", x.alike(200, 201), false);
    }

    private void hash() {
        PropertyTrie x = new PropertyTrie();
        checks.due("hash(0, 0, 0)", x.hash(0, 0, 0), 31);
        checks.due("hash(last, last, 7)", x.hash(LAST, LAST, 7), 31);
        checks.due("hash(4, 5, 0)", x.hash(4, 5, 0), 961);
        x.set(10, 10, 2, 5);
        x.set(11, 11, 2, -7);
        x.set(12, 12, 2, Integer.MIN_VALUE);
        checks.due("hash(10, 10, 2)", x.hash(10, 10, 2), 36);
        checks.due("hash(11, 11, 2)", x.hash(11, 11, 2), 24);
        checks.due("hash(10, 11, 2)", x.hash(10, 11, 2), 31 * 36 - 7);
        checks.due("hash(9, 12, 2)", x.hash(9, 12, 2), 31 * (31 * (31 * 31 + 5) - 7) + Integer.MIN_VALUE);
        checks.due("hash(10, 12, 1)", x.hash(10, 12, 1), 31 * 31 * 31);
        x.set(0, LAST, 0, 0x12345678);
        int h = 1;
        for (int i = 0; i < 100; i++) {
            h = 31 * h + 0x12345678;
        }
        checks.due("hash(1000, 1099, 0) wraps", x.hash(1000, 1099, 0), h);
        checks.due("hash(last - 99, last, 0)", x.hash(LAST - 99, LAST, 0), h);
    }

    private void clear() {
        PropertyTrie x = new PropertyTrie();
        for (int field = 0; field < 8; field++) {
            x.set(500 * field, LAST - 500 * field, field, 3);
        }
        x.set(7, 9, 3, 1);
        checks.due("clear()", x.clear(), 1024);
        for (int field = 0; field < 8; field++) {
            checks.due("cleared: get(8, " + field + ")", x.get(8, field), 0);
            checks.due("cleared: change(0, " + field + ")", x.change(0, field), -1);
        }
        checks.due("cleared: alike(0, last)", x.alike(0, LAST), true);
        checks.due("clear() again", x.clear(), 0);
        x.set(3, 5, 1, 2);
        checks.due("set anew: get(4, 1)", x.get(4, 1), 2);
        checks.due("set anew: get(6, 1)", x.get(6, 1), 0);
        checks.due("set anew: alike(3, 500)", x.alike(3, 500), false);
        checks.due("set anew: clear()", x.clear(), 3);
    }

    private void clearCounts() {
        PropertyTrie x = new PropertyTrie();
        x.set(1023, 1023, 7, -1);
        checks.due("clear() with 1023", x.clear(), 1);
        x.set(1024, LAST, 7, -1);
        checks.due("clear() without 1023", x.clear(), 0);
        x.set(0, 0, 0, 1);
        checks.due("clear() with 0", x.clear(), 1);
        x.set(1000, 2000, 4, 1);
        checks.due("clear() over 1023", x.clear(), 24);
        x.set(10, 19, 0, 1);
        x.set(15, 24, 1, 1);
        x.set(40, 49, 2, 1);
        checks.due("clear(), a point counts once", x.clear(), 25);
        x.set(10, 19, 0, 1);
        x.set(12, 14, 0, 0);
        checks.due("clear(), set back to 0", x.clear(), 7);
        x.set(0, LAST, 5, 1);
        x.mark(100, 1023, 5, 0, ~1);
        checks.due("clear(), marked back to 0", x.clear(), 100);
        x.set(3, 3, 0, 0);
        checks.due("clear(), 0 set to 0", x.clear(), 0);
    }
}
