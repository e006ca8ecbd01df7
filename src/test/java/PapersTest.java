/** Promises 15 to 18: paper, missing, look, count. */
public final class PapersTest {
    private static final Check CHECK = new Check();

    public static void main(String[] args) {
        told();
        wanted();
        wantedOfSeveral();
        wantedOfALimit();
        looks();
        counts();
        CHECK.end();
    }

    private static void told() {
        DangerTables x = new DangerTables();
        CHECK.denies("no box", () -> x.paper(0, 0));
        x.box(Check.plain(x, 1), 1);
        x.box(0, 1);
        for (int none : new int[] {-1, 2, Integer.MIN_VALUE, Integer.MAX_VALUE}) {
            CHECK.denies("box " + none, () -> x.paper(none, 0));
        }
        for (int none : new int[] {-1, 5, 31, 32, 33, Integer.MIN_VALUE, Integer.MAX_VALUE}) {
            CHECK.denies("field " + none, () -> x.paper(0, none));
        }
        CHECK.is("nothing told", x.look(0, 6), 0);
        int bits = 0;
        for (int field : new int[] {3, 0, 4, 1, 2}) {
            CHECK.is("tell " + field, x.paper(0, field), true);
            CHECK.denies("tell again " + field, () -> x.paper(0, field));
            bits |= 1 << field;
            CHECK.is("told", x.look(0, 6), bits);
        }
        CHECK.is("the other box", x.look(1, 6), 0);
        CHECK.is("the other box", x.paper(1, 3), true);
    }

    private static void wanted() {
        for (int group = 1; group <= 3; group++) {
            for (int marks = 0; marks < 4; marks++) {
                boolean marine = marks % 2 == 1;
                boolean temperature = marks >= 2;
                DangerTables x = new DangerTables();
                x.box(x.good(1, 0, group, 0, marine, temperature), 1);
                int due = 1 + (group == 1 ? 2 : 0) + (marine ? 4 : 0) + (temperature ? 8 : 0) + 16;
                CHECK.is("missing", x.missing(0), due);
                for (int field = 0; field < 5; field++) {
                    x.paper(0, field);
                    due &= ~(1 << field);
                    CHECK.is("missing after " + field, x.missing(0), due);
                }
            }
        }
        DangerTables x = new DangerTables();
        CHECK.illegal("no box", () -> x.missing(0));
        x.box(Check.plain(x, 1), 1);
        for (int none : new int[] {-1, 1, Integer.MIN_VALUE, Integer.MAX_VALUE}) {
            CHECK.illegal("box " + none, () -> x.missing(none));
        }
    }

    private static void wantedOfSeveral() {
        DangerTables x = new DangerTables();
        x.box(x.good(1, 0, 3, 10, false, false), 10);
        CHECK.is("the plainest", x.missing(0), 1);
        x.paper(0, 0);
        x.paper(0, 2);
        CHECK.is("put", x.put(0, 0, 0, 0), 0);
        x.take(0);
        x.also(0, x.good(1, 0, 1, 10, false, false), 10);
        CHECK.is("group 1 comes", x.missing(0), 2);
        x.also(0, x.good(1, 0, 2, 10, true, false), 10);
        CHECK.is("what was told ahead counts", x.missing(0), 2);
        x.also(0, x.good(1, 0, 2, 10, false, true), 11);
        CHECK.is("temperature and not limited", x.missing(0), 2 + 8 + 16);
        CHECK.is("barred", x.put(0, 0, 0, 0), 16);
    }

    private static void wantedOfALimit() {
        DangerTables x = new DangerTables();
        int good = x.good(1, 0, 2, 1000, false, false);
        x.box(good, 1000);
        x.box(good, 1001);
        x.box(good, 1);
        CHECK.is("at the limit", x.missing(0), 1);
        CHECK.is("above the limit", x.missing(1), 17);
        CHECK.is("below the limit", x.missing(2), 1);
        x.box(Check.plain(x, 1), 1);
        CHECK.is("a limit of 0", x.missing(3), 17);
    }

    private static void looks() {
        DangerTables x = new DangerTables();
        CHECK.outOfBounds("no box", () -> x.look(0, 0));
        int first = x.good(1, 0, 2, 10, false, false);
        int second = x.good(2, 0, 2, 20, false, false);
        int third = x.good(3, 0, 2, 0, false, false);
        x.box(first, 10);
        x.box(second, 21);
        x.also(0, second, 20);
        x.also(0, third, 5);
        look(x, 0, 3, -1, -1, -1, 35, 2, 0);
        look(x, 1, 1, -1, -1, -1, 21, 0, 0);
        x.paper(0, 0);
        x.paper(0, 4);
        CHECK.is("put", x.put(2, 0, 17, 4), 0);
        look(x, 0, 3, 2, 17, 4, 35, 2, 17);
        x.take(0);
        look(x, 0, 3, -1, -1, -1, 35, 2, 17);
        for (int none : new int[] {-1, 2, Integer.MIN_VALUE, Integer.MAX_VALUE}) {
            CHECK.outOfBounds("box " + none, () -> x.look(none, 0));
        }
        for (int none : new int[] {-1, 7, Integer.MIN_VALUE, Integer.MAX_VALUE}) {
            CHECK.outOfBounds("what " + none, () -> x.look(0, none));
        }
    }

    private static void look(DangerTables x, int box, int... due) {
        for (int what = 0; what < due.length; what++) {
            CHECK.is("look " + box + " " + what, x.look(box, what), due[what]);
        }
    }

    private static void counts() {
        DangerTables x = Check.withRules((a, b) -> 0);
        int good = Check.plain(x, 1);
        Check.plain(x, 2);
        for (int i = 0; i < 5; i++) {
            Check.boxWithPapers(x, good, 1);
        }
        x.put(0, 0, 0, 0);
        x.put(1, 3, 0, 0);
        x.put(3, 4, 0, 0);
        x.sign('1');
        x.sign(';');
        x.sign(':');
        int[] due = {2, 2, 5, 3, 1};
        for (int what = 0; what < 5; what++) {
            CHECK.is("count " + what, x.count(what), due[what]);
        }
        x.take(3);
        x.read();
        CHECK.is("boxes that lie", x.count(3), 2);
        CHECK.is("signs", x.count(0), 0);
        CHECK.is("a table was read", x.count(4), 1);
        for (int none : new int[] {-1, 5, Integer.MIN_VALUE, Integer.MAX_VALUE}) {
            CHECK.is("count " + none, x.count(none), -1);
        }
    }
}
