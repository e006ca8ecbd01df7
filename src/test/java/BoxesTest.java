/** Promises 7 to 10: box, also, apart, ship. */
public final class BoxesTest {
    private static final Check CHECK = new Check();

    public static void main(String[] args) {
        boxes();
        mostBoxes();
        more();
        moreOfALyingBox();
        wrongPairs();
        allPairsOfClasses();
        sides();
        limited();
        strictestOfAllGoods();
        cells();
        CHECK.end();
    }

    private static void boxes() {
        DangerTables x = new DangerTables();
        CHECK.illegal("no good", () -> x.box(0, 1));
        Check.plain(x, 1);
        for (int none : new int[] {-1, 1, Integer.MIN_VALUE, Integer.MAX_VALUE}) {
            CHECK.illegal("good " + none, () -> x.box(none, 1));
        }
        for (int none : new int[] {0, -1, 30001, Integer.MIN_VALUE, Integer.MAX_VALUE}) {
            CHECK.illegal("amount " + none, () -> x.box(0, none));
        }
        CHECK.is("box", x.box(0, 1), 0);
        CHECK.is("box", x.box(0, 30000), 1);
        CHECK.is("boxes", x.count(2), 2);
        CHECK.is("goods of a box", x.look(1, 0), 1);
        CHECK.is("kilograms of a box", x.look(1, 4), 30000);
    }

    private static void mostBoxes() {
        DangerTables x = new DangerTables();
        Check.plain(x, 1);
        for (int i = 0; i < 12; i++) {
            CHECK.is("box " + i, x.box(0, i + 1), i);
        }
        CHECK.badState("a 13th", () -> x.box(0, 1));
        CHECK.illegal("a 13th of no good", () -> x.box(1, 1));
        CHECK.illegal("a 13th of no amount", () -> x.box(0, 0));
        CHECK.is("boxes", x.count(2), 12);
    }

    private static void more() {
        DangerTables x = new DangerTables();
        for (int i = 0; i < 6; i++) {
            Check.plain(x, i + 1);
        }
        x.box(0, 7);
        CHECK.is("also", x.also(0, 1, 1), 2);
        for (int none : new int[] {-1, 1, Integer.MIN_VALUE, Integer.MAX_VALUE}) {
            CHECK.illegal("box " + none, () -> x.also(none, 2, 1));
        }
        for (int none : new int[] {-1, 6, Integer.MIN_VALUE, Integer.MAX_VALUE}) {
            CHECK.illegal("good " + none, () -> x.also(0, none, 1));
        }
        for (int none : new int[] {0, -1, 30001, Integer.MIN_VALUE, Integer.MAX_VALUE}) {
            CHECK.illegal("amount " + none, () -> x.also(0, 2, none));
        }
        CHECK.illegal("the first again", () -> x.also(0, 0, 1));
        CHECK.illegal("the second again", () -> x.also(0, 1, 5));
        CHECK.is("also", x.also(0, 2, 30000), 3);
        CHECK.is("also", x.also(0, 3, 30000), 4);
        CHECK.badState("a fifth", () -> x.also(0, 4, 1));
        CHECK.illegal("the fourth again", () -> x.also(0, 3, 1));
        CHECK.illegal("a fifth of no good", () -> x.also(0, 6, 1));
        CHECK.illegal("a fifth of no amount", () -> x.also(0, 4, 0));
        CHECK.is("kilograms", x.look(0, 4), 60008);
        CHECK.is("another box has the good too", x.box(0, 1), 1);
        CHECK.is("and others", x.also(1, 3, 1), 2);
    }

    private static void moreOfALyingBox() {
        DangerTables x = new DangerTables();
        Check.plain(x, 1);
        Check.plain(x, 2);
        Check.boxWithPapers(x, 0, 1);
        x.put(3, 0, 1, 1);
        CHECK.badState("it lies", () -> x.also(0, 1, 1));
        CHECK.illegal("it lies and has that", () -> x.also(0, 0, 1));
        CHECK.illegal("it lies, and no amount", () -> x.also(0, 1, 0));
        x.take(0);
        CHECK.is("taken away", x.also(0, 1, 1), 2);
    }

    private static void wrongPairs() {
        DangerTables x = new DangerTables();
        Check.plain(x, 1);
        x.box(0, 1);
        x.box(0, 1);
        for (int none : new int[] {-1, 2, Integer.MIN_VALUE, Integer.MAX_VALUE}) {
            CHECK.illegal("apart " + none + " 0", () -> x.apart(none, 0));
            CHECK.illegal("apart 0 " + none, () -> x.apart(0, none));
            CHECK.illegal("apart of none", () -> x.apart(none, none));
            CHECK.illegal("ship " + none + " 0", () -> x.ship(none, 0, 1));
            CHECK.illegal("ship 0 " + none, () -> x.ship(0, none, 1));
        }
        CHECK.illegal("apart of one", () -> x.apart(1, 1));
        CHECK.illegal("ship of one", () -> x.ship(1, 1, 1));
        for (int none : new int[] {-1, 101, Integer.MIN_VALUE, Integer.MAX_VALUE}) {
            CHECK.illegal("cells " + none, () -> x.ship(0, 1, none));
        }
    }

    private static void allPairsOfClasses() {
        for (int a = 1; a <= 9; a++) {
            for (int b = 1; b <= 9; b++) {
                DangerTables x = new DangerTables();
                x.box(Check.plain(x, a), 1);
                x.box(Check.plain(x, b), 1);
                CHECK.is("ahead of a table", x.apart(0, 1), 4);
                Check.read(x, Check.table((c, d) -> (c + 2 * d) % 5));
                int due = (Math.min(a, b) + 2 * Math.max(a, b)) % 5;
                CHECK.is("apart " + a + b, x.apart(0, 1), due);
                CHECK.is("apart turned " + a + b, x.apart(1, 0), due);
            }
        }
    }

    private static void sides() {
        DangerTables x = Check.withRules((a, b) -> a == 1 && b == 1 ? 4 : a == 2 && b == 4 ? 3 : b == 4 ? 2 : b == 3 ? 1 : 0);
        x.box(x.good(1, 2, 1, 0, false, false), 1);
        x.box(x.good(3, 4, 1, 0, false, false), 1);
        x.box(x.good(3, 0, 1, 0, false, false), 1);
        x.box(x.good(4, 5, 1, 0, false, false), 1);
        CHECK.is("side with side", x.apart(0, 1), 3);
        CHECK.is("class with class", x.apart(0, 2), 1);
        CHECK.is("side with class", x.apart(0, 3), 3);
        CHECK.is("class with side", x.apart(3, 0), 3);
        CHECK.is("no side on one", x.apart(1, 2), 2);
        x.box(0, 5);
        CHECK.is("two boxes of one good", x.apart(0, 4), 4);
    }

    private static void limited() {
        DangerTables x = Check.withRules((a, b) -> a == 1 ? b == 3 ? 0 : 4 : 1);
        int few = x.good(1, 0, 1, 10, false, false);
        int other = x.good(2, 0, 1, 20, false, false);
        int free = x.good(3, 0, 1, 0, false, false);
        x.box(few, 10);
        x.box(few, 11);
        x.box(other, 20);
        x.box(other, 21);
        x.box(free, 1);
        CHECK.is("both limited", x.apart(0, 2), 1);
        CHECK.is("the first limited", x.apart(0, 3), 1);
        CHECK.is("the second limited", x.apart(1, 2), 1);
        CHECK.is("none limited", x.apart(1, 3), 4);
        CHECK.is("limited does not make a rule", x.apart(0, 4), 0);
        CHECK.is("AWAY stays", x.apart(2, 4), 1);
    }

    private static void strictestOfAllGoods() {
        DangerTables x = Check.withRules((a, b) -> a == 1 && b == 5 ? 4 : a == 3 && b == 8 ? 3 : b == 7 ? 2 : a == b ? 4 : 0);
        int[] good = new int[10];
        for (int cls = 1; cls <= 9; cls++) {
            good[cls] = x.good(cls, 0, 1, cls == 5 ? 100 : 0, false, false);
        }
        x.box(good[1], 1);
        x.also(0, good[2], 1);
        x.also(0, good[3], 1);
        x.box(good[4], 1);
        CHECK.is("none", x.apart(0, 1), 0);
        x.also(1, good[5], 100);
        CHECK.is("limited", x.apart(0, 1), 1);
        x.also(1, good[7], 1);
        CHECK.is("a third", x.apart(0, 1), 2);
        x.also(1, good[8], 1);
        CHECK.is("a fourth", x.apart(0, 1), 3);
        CHECK.is("turned", x.apart(1, 0), 3);
        x.box(good[5], 101);
        CHECK.is("not limited in another box", x.apart(0, 2), 4);
    }

    private static void cells() {
        int[] enough = {0, 1, 2, 4, 8};
        for (int rule = 0; rule <= 4; rule++) {
            int due = rule;
            DangerTables x = Check.withRules((a, b) -> due);
            x.box(Check.plain(x, 1), 1);
            x.box(Check.plain(x, 2), 1);
            for (int cells = 0; cells <= 100; cells++) {
                CHECK.is("rule " + rule + " cells " + cells, x.ship(0, 1, cells), cells >= enough[rule]);
                CHECK.is("turned", x.ship(1, 0, cells), cells >= enough[rule]);
            }
        }
    }
}
