/** Promises 5 and 6: good, exempt. */
public final class GoodsTest {
    private static final Check CHECK = new Check();

    public static void main(String[] args) {
        numbers();
        wrongGoods();
        mostGoods();
        exemptAnswers();
        exemptCountsAsNothing();
        exemptOfOneIsEnough();
        exemptOfSides();
        CHECK.end();
    }

    private static void numbers() {
        DangerTables x = new DangerTables();
        CHECK.is("good", x.good(1, 0, 1, 0, false, false), 0);
        CHECK.is("good", x.good(9, 8, 3, 1000, true, true), 1);
        CHECK.is("good", x.good(1, 9, 2, 500, false, true), 2);
        CHECK.is("the same again", x.good(1, 9, 2, 500, false, true), 3);
        CHECK.is("goods", x.count(1), 4);
    }

    private static void refused(DangerTables x, int cls, int side, int group, int limit) {
        String call = "good " + cls + " " + side + " " + group + " " + limit;
        CHECK.illegal(call, () -> x.good(cls, side, group, limit, true, false));
        CHECK.is("goods after " + call, x.count(1), 0);
    }

    private static void wrongGoods() {
        DangerTables x = new DangerTables();
        for (int none : new int[] {-1, 10, Integer.MIN_VALUE, Integer.MAX_VALUE}) {
            refused(x, none, 0, 1, 0);
            refused(x, 1, none, 1, 0);
        }
        refused(x, 0, 0, 1, 0);
        refused(x, 0, 1, 1, 0);
        for (int cls = 1; cls <= 9; cls++) {
            refused(x, cls, cls, 1, 0);
        }
        for (int none : new int[] {0, 4, -1, Integer.MIN_VALUE, Integer.MAX_VALUE}) {
            refused(x, 1, 0, none, 0);
        }
        for (int none : new int[] {-1, 1001, Integer.MIN_VALUE, Integer.MAX_VALUE}) {
            refused(x, 1, 0, 1, none);
        }
    }

    private static void mostGoods() {
        DangerTables x = new DangerTables();
        for (int i = 0; i < 16; i++) {
            CHECK.is("good " + i, x.good(1 + i % 9, 0, 1 + i % 3, i, false, false), i);
        }
        CHECK.badState("a 17th", () -> x.good(1, 0, 1, 0, false, false));
        CHECK.illegal("a wrong 17th", () -> x.good(1, 1, 1, 0, false, false));
        CHECK.illegal("a wrong 17th", () -> x.good(1, 0, 1, 1001, false, false));
        CHECK.is("goods", x.count(1), 16);
        CHECK.is("the last good is there", x.exempt(15, 1, 1), true);
        CHECK.denies("none behind it", () -> x.exempt(16, 1, 1));
    }

    private static void exemptAnswers() {
        DangerTables x = new DangerTables();
        CHECK.denies("no good", () -> x.exempt(0, 1, 1));
        Check.plain(x, 1);
        Check.plain(x, 2);
        for (int none : new int[] {-1, 0, 10, Integer.MIN_VALUE, Integer.MAX_VALUE}) {
            CHECK.denies("no class", () -> x.exempt(0, none, 1));
            CHECK.denies("no class", () -> x.exempt(0, 1, none));
        }
        for (int none : new int[] {-1, 2, Integer.MIN_VALUE, Integer.MAX_VALUE}) {
            CHECK.denies("no good", () -> x.exempt(none, 1, 1));
        }
        for (int good = 0; good < 2; good++) {
            for (int a = 1; a <= 9; a++) {
                for (int b = a; b <= 9; b++) {
                    exemptOnce(x, good, a, b);
                }
            }
        }
    }

    private static void exemptOnce(DangerTables x, int good, int a, int b) {
        CHECK.is("exempt " + a + b, x.exempt(good, a, b), true);
        CHECK.denies("exempt again " + a + b, () -> x.exempt(good, a, b));
        CHECK.denies("exempt turned " + b + a, () -> x.exempt(good, b, a));
    }

    private static void exemptCountsAsNothing() {
        for (int a = 1; a <= 9; a++) {
            for (int b = 1; b <= 9; b++) {
                DangerTables x = Check.withRules((c, d) -> 3);
                x.box(Check.plain(x, a), 1);
                x.box(Check.plain(x, b), 1);
                exemptAllBut(x, a, b);
                CHECK.is("another pair than " + a + b, x.apart(0, 1), 3);
                CHECK.is("exempt " + b + a, x.exempt(1, b, a), true);
                CHECK.is("that pair " + a + b, x.apart(0, 1), 0);
            }
        }
    }

    private static void exemptAllBut(DangerTables x, int a, int b) {
        for (int c = 1; c <= 9; c++) {
            for (int d = c; d <= 9; d++) {
                if (c != Math.min(a, b) || d != Math.max(a, b)) {
                    x.exempt(0, c, d);
                }
            }
        }
    }

    private static void exemptOfOneIsEnough() {
        DangerTables x = Check.withRules((a, b) -> 2);
        int first = Check.plain(x, 3);
        int second = Check.plain(x, 4);
        int third = Check.plain(x, 4);
        x.box(first, 1);
        x.box(second, 1);
        x.box(third, 1);
        x.exempt(second, 3, 4);
        CHECK.is("exempt for the other", x.apart(0, 1), 0);
        CHECK.is("turned", x.apart(1, 0), 0);
        CHECK.is("not for the third", x.apart(0, 2), 2);
        CHECK.is("another pair", x.apart(1, 2), 2);
        CHECK.is("rule itself stays", x.rule(3, 4), 2);
    }

    private static void exemptOfSides() {
        DangerTables x = Check.withRules((a, b) -> a == 2 && b == 5 ? 4 : a == 1 && b == 5 ? 3 : a == 1 && b == 3 ? 2 : 0);
        int one = x.good(1, 2, 2, 0, false, false);
        int other = x.good(3, 5, 2, 0, false, false);
        x.box(one, 1);
        x.box(other, 1);
        CHECK.is("side with side", x.apart(0, 1), 4);
        x.exempt(one, 2, 5);
        CHECK.is("class with side", x.apart(0, 1), 3);
        x.exempt(other, 5, 1);
        CHECK.is("class with class", x.apart(0, 1), 2);
        x.exempt(one, 1, 3);
        CHECK.is("none left", x.apart(0, 1), 0);
    }
}
