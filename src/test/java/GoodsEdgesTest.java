/** The sentences with boundary cases of promises 5 and 6, and of the terms that they rest on. */
public final class GoodsEdgesTest {
    private static final Check CHECK = new Check();

    public static void main(String[] args) {
        classes();
        sides();
        sideThatIsTheClass();
        groups();
        limits();
        severalWrongNumbers();
        sixteenGoods();
        numbersBeforeRoom();
        refusedGoodsTakeNoNumber();
        goodsOfExempt();
        classesOfExempt();
        exemptAlready();
        exemptForThatGoodAlone();
        exemptCountsFromThenOn();
        CHECK.end();
    }

    /** Terms: "CLASSES 1 .. 9"; promise 5: "IllegalArgumentException if its numbers can't be". */
    private static void classes() {
        for (int cls = 1; cls <= 9; cls++) {
            DangerTables x = new DangerTables();
            CHECK.is("good of class " + cls, x.good(cls, 0, 1, 0, false, false), 0);
            Check.boxWithPapers(x, 0, 7);
            x.put(0, 0, 0, 0);
            for (int each = 1; each <= 9; each++) {
                CHECK.is("kilograms of " + each, x.zone(0, each), each == cls ? 7 : 0);
            }
        }
        DangerTables x = new DangerTables();
        for (int none : Edges.outside(1, 9)) {
            CHECK.illegal("class " + none, () -> x.good(none, 0, 1, 0, false, false));
            CHECK.illegal("class " + none, () -> x.good(none, 5, 1, 0, false, false));
        }
        CHECK.is("goods", x.count(1), 0);
    }

    /** Terms: "a SIDE class (0 none ..". */
    private static void sides() {
        for (int side = 0; side <= 9; side++) {
            DangerTables x = new DangerTables();
            int cls = side == 5 ? 6 : 5;
            CHECK.is("good with side " + side, x.good(cls, side, 1, 0, false, false), 0);
            Check.boxWithPapers(x, 0, 7);
            x.put(0, 0, 0, 0);
            for (int each = 1; each <= 9; each++) {
                CHECK.is("kilograms of " + each, x.zone(0, each), each == cls || each == side ? 7 : 0);
            }
        }
        DangerTables x = new DangerTables();
        for (int none : Edges.outside(0, 9)) {
            CHECK.illegal("side " + none, () -> x.good(5, none, 1, 0, false, false));
        }
        CHECK.is("goods", x.count(1), 0);
    }

    /** Terms: ".. not the same)". */
    private static void sideThatIsTheClass() {
        for (int cls = 1; cls <= 9; cls++) {
            DangerTables x = new DangerTables();
            int both = cls;
            CHECK.illegal("class and side " + cls, () -> x.good(both, both, 1, 0, false, false));
            CHECK.is("goods", x.count(1), 0);
            CHECK.is("one beside", x.good(cls, cls == 9 ? 8 : cls + 1, 1, 0, false, false), 0);
            CHECK.is("none", x.good(cls, 0, 1, 0, false, false), 1);
        }
        DangerTables x = new DangerTables();
        CHECK.illegal("class and side 0", () -> x.good(0, 0, 1, 0, false, false));
    }

    /** Terms: "a GROUP (1 .. 3)". */
    private static void groups() {
        for (int group = 1; group <= 3; group++) {
            DangerTables x = new DangerTables();
            CHECK.is("group " + group, x.good(1, 0, group, 0, false, false), 0);
            x.box(0, 1);
            CHECK.is("fields of group " + group, x.missing(0), group == 1 ? 19 : 17);
        }
        DangerTables x = new DangerTables();
        for (int none : Edges.outside(1, 3)) {
            CHECK.illegal("group " + none, () -> x.good(1, 0, none, 0, false, false));
        }
        CHECK.is("goods", x.count(1), 0);
    }

    /** Terms: "a LIMIT (0 .. 1000 kilograms)". */
    private static void limits() {
        for (int limit : Edges.ends(0, 1000)) {
            DangerTables x = new DangerTables();
            CHECK.is("limit " + limit, x.good(1, 0, 2, limit, false, false), 0);
            x.box(0, limit + 1);
            CHECK.is("above " + limit, x.look(0, 5), 0);
            if (limit > 0) {
                x.box(0, limit);
                CHECK.is("not above " + limit, x.look(1, 5), 1);
            }
        }
        DangerTables x = new DangerTables();
        for (int none : Edges.outside(0, 1000)) {
            CHECK.illegal("limit " + none, () -> x.good(1, 0, 1, none, false, false));
        }
        CHECK.is("goods", x.count(1), 0);
    }

    private static void severalWrongNumbers() {
        DangerTables x = new DangerTables();
        for (int none : new int[] {Integer.MIN_VALUE, -1, Integer.MAX_VALUE}) {
            CHECK.illegal("all " + none, () -> x.good(none, none, none, none, true, true));
        }
        CHECK.is("goods", x.count(1), 0);
    }

    private static DangerTables withGoods(int goods) {
        DangerTables x = new DangerTables();
        for (int i = 0; i < goods; i++) {
            CHECK.is("good " + i, x.good(1 + i % 9, 0, 2, 100 + i, false, false), i);
            CHECK.is("goods", x.count(1), i + 1);
        }
        return x;
    }

    /** Terms: "GOODS 0, 1, .. (16 at most)"; promise 5: "IllegalStateException if there are 16". */
    private static void sixteenGoods() {
        DangerTables x = withGoods(16);
        CHECK.badState("a 17th", () -> x.good(1, 0, 1, 0, false, false));
        CHECK.badState("again", () -> x.good(9, 1, 1, 1000, true, true));
        CHECK.is("goods", x.count(1), 16);
        for (int good : new int[] {0, 1, 14, 15}) {
            CHECK.is("at its limit", x.missing(x.box(good, 100 + good)), 1);
            CHECK.is("above its limit", x.missing(x.box(good, 101 + good)), 17);
        }
        CHECK.illegal("a box of a 17th", () -> x.box(16, 1));
    }

    /** Terms: "Of several exceptions the one told first is thrown". */
    private static void numbersBeforeRoom() {
        DangerTables x = withGoods(16);
        CHECK.illegal("no class", () -> x.good(0, 0, 1, 0, false, false));
        CHECK.illegal("no class", () -> x.good(10, 0, 1, 0, false, false));
        CHECK.illegal("no side", () -> x.good(1, -1, 1, 0, false, false));
        CHECK.illegal("the same side", () -> x.good(1, 1, 1, 0, false, false));
        CHECK.illegal("no side", () -> x.good(1, 10, 1, 0, false, false));
        CHECK.illegal("no group", () -> x.good(1, 0, 0, 0, false, false));
        CHECK.illegal("no group", () -> x.good(1, 0, 4, 0, false, false));
        CHECK.illegal("no limit", () -> x.good(1, 0, 1, -1, false, false));
        CHECK.illegal("no limit", () -> x.good(1, 0, 1, 1001, false, false));
        CHECK.is("goods", x.count(1), 16);
    }

    private static void refusedGoodsTakeNoNumber() {
        DangerTables x = withGoods(15);
        CHECK.illegal("no group", () -> x.good(1, 0, 4, 0, false, false));
        CHECK.is("goods", x.count(1), 15);
        CHECK.is("the 16th", x.good(1, 0, 3, 0, false, false), 15);
        CHECK.badState("the 17th", () -> x.good(1, 0, 3, 0, false, false));
    }

    /** Promise 6: "false if there is none such". */
    private static void goodsOfExempt() {
        for (int goods : new int[] {0, 1, 2, 15, 16}) {
            DangerTables x = withGoods(goods);
            for (int none : Edges.outside(0, goods - 1)) {
                CHECK.denies("exempt for " + none + " of " + goods, () -> x.exempt(none, 1, 2));
            }
            for (int good = 0; good < goods; good++) {
                CHECK.is("exempt for " + good, x.exempt(good, 1, 2), true);
            }
            for (int none : Edges.outside(0, goods - 1)) {
                CHECK.denies("exempt for " + none + " of " + goods, () -> x.exempt(none, 1, 2));
            }
        }
    }

    /** Promise 6: "no such classes". */
    private static void classesOfExempt() {
        DangerTables x = withGoods(1);
        for (int none : Edges.outside(1, 9)) {
            for (int cls : Edges.ends(1, 9)) {
                CHECK.denies("exempt " + none + " " + cls, () -> x.exempt(0, none, cls));
                CHECK.denies("exempt " + cls + " " + none, () -> x.exempt(0, cls, none));
            }
            CHECK.denies("exempt " + none + " " + none, () -> x.exempt(0, none, none));
        }
        for (int a = 1; a <= 9; a++) {
            for (int b = a; b <= 9; b++) {
                CHECK.is("exempt " + a + " " + b, x.exempt(0, a, b), true);
            }
        }
    }

    /** Promise 6: "or it is" (a pair is the same in either order). */
    private static void exemptAlready() {
        for (int a = 1; a <= 9; a++) {
            for (int b = 1; b <= 9; b++) {
                DangerTables x = withGoods(1);
                int first = a;
                int second = b;
                CHECK.is("exempt " + a + " " + b, x.exempt(0, a, b), true);
                CHECK.denies("again " + a + " " + b, () -> x.exempt(0, first, second));
                CHECK.denies("turned " + b + " " + a, () -> x.exempt(0, second, first));
                CHECK.is("another", x.exempt(0, a, b == 9 ? 8 : b + 1), true);
                CHECK.denies("again behind another", () -> x.exempt(0, second, first));
            }
        }
    }

    private static void exemptForThatGoodAlone() {
        DangerTables x = withGoods(16);
        for (int good = 15; good >= 0; good--) {
            int number = good;
            CHECK.is("exempt for " + good, x.exempt(good, 4, 9), true);
            CHECK.denies("again for " + good, () -> x.exempt(number, 9, 4));
        }
    }

    /** Terms: "a pair of classes that is EXEMPT for one of both counts as 0", from 4 to 0. */
    private static void exemptCountsFromThenOn() {
        DangerTables x = new DangerTables();
        Check.plain(x, 1);
        Check.plain(x, 9);
        x.box(0, 1);
        x.box(1, 1);
        CHECK.is("not yet", x.apart(0, 1), 4);
        CHECK.denies("a refused one", () -> x.exempt(0, 1, 10));
        CHECK.is("not yet", x.apart(0, 1), 4);
        CHECK.is("exempt", x.exempt(1, 9, 1), true);
        CHECK.is("exempt", x.apart(0, 1), 0);
        CHECK.is("for both", x.exempt(0, 1, 9), true);
        CHECK.is("exempt for both", x.apart(1, 0), 0);
        CHECK.is("the rule stays", x.rule(1, 9), 4);
        Check.read(x, Check.table((a, b) -> 3));
        CHECK.is("exempt by another table", x.apart(0, 1), 0);
    }
}
