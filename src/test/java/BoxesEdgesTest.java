/** The sentences with boundary cases of promises 7 to 10, and of the terms that they rest on. */
public final class BoxesEdgesTest {
    private static final Check CHECK = new Check();

    public static void main(String[] args) {
        goodsOfBox();
        amountsOfBox();
        twelveBoxes();
        argumentsBeforeRoomForBoxes();
        boxesOfAlso();
        goodsOfAlso();
        amountsOfAlso();
        fourGoods();
        goodThatItHas();
        goodThatItHasWhenFull();
        boxThatLies();
        argumentsBeforeTheStateOfABox();
        limitedUpToTheLimit();
        limitedInThatBoxAlone();
        limitedIsAwayAtMost();
        noRuleStaysNoRule();
        boxesOfApart();
        boxesThatAreOne();
        strictestOfClassesAndSides();
        strictestOfFourTimesFour();
        goodsOfOneBox();
        boxesOfShip();
        cellsOfShip();
        leastCellsOfEachRule();
        CHECK.end();
    }

    private static DangerTables withGoods(int goods) {
        DangerTables x = new DangerTables();
        for (int i = 0; i < goods; i++) {
            Check.plain(x, 1 + i % 9);
        }
        return x;
    }

    private static DangerTables withBoxes(int boxes) {
        DangerTables x = withGoods(16);
        for (int i = 0; i < boxes; i++) {
            CHECK.is("box " + i, x.box(i, 1000 + i), i);
            CHECK.is("boxes", x.count(2), i + 1);
        }
        return x;
    }

    /** Promise 7: "IllegalArgumentException if there is no such good ..". */
    private static void goodsOfBox() {
        for (int goods : new int[] {0, 1, 2, 15, 16}) {
            DangerTables x = withGoods(goods);
            for (int none : Edges.outside(0, goods - 1)) {
                CHECK.illegal("good " + none + " of " + goods, () -> x.box(none, 1));
            }
            CHECK.is("boxes", x.count(2), 0);
            if (goods > 0) {
                CHECK.is("the last good", x.box(goods - 1, 1), 0);
                CHECK.is("the first good", x.box(0, 1), 1);
            }
        }
    }

    /** Terms: "amounts (1 .. 30000 kilograms)"; promise 7: ".. or amount". */
    private static void amountsOfBox() {
        DangerTables x = withGoods(1);
        for (int none : Edges.outside(1, 30000)) {
            CHECK.illegal("amount " + none, () -> x.box(0, none));
        }
        CHECK.is("boxes", x.count(2), 0);
        for (int amount : Edges.ends(1, 30000)) {
            int box = x.box(0, amount);
            CHECK.is("kilograms", x.look(box, 4), amount);
            CHECK.is("goods", x.look(box, 0), 1);
        }
        CHECK.is("boxes", x.count(2), 4);
    }

    /** Terms: "BOXES 0, 1, .. (12 at most)"; promise 7: "IllegalStateException if there are 12". */
    private static void twelveBoxes() {
        DangerTables x = withBoxes(12);
        CHECK.badState("a 13th", () -> x.box(0, 1));
        CHECK.badState("again", () -> x.box(15, 30000));
        CHECK.is("boxes", x.count(2), 12);
        for (int i = 0; i < 12; i++) {
            CHECK.is("kilograms of " + i, x.look(i, 4), 1000 + i);
        }
        CHECK.outOfBounds("a 13th", () -> x.look(12, 0));
        DangerTables y = withBoxes(11);
        CHECK.illegal("a refused 12th", () -> y.box(0, 0));
        CHECK.is("the 12th", y.box(0, 1), 11);
        CHECK.badState("the 13th", () -> y.box(0, 1));
    }

    /** Terms: "Of several exceptions the one told first is thrown". */
    private static void argumentsBeforeRoomForBoxes() {
        DangerTables x = withBoxes(12);
        for (int none : Edges.outside(0, 15)) {
            CHECK.illegal("good " + none, () -> x.box(none, 1));
        }
        for (int none : Edges.outside(1, 30000)) {
            CHECK.illegal("amount " + none, () -> x.box(0, none));
        }
        CHECK.is("boxes", x.count(2), 12);
    }

    /** Promise 8: "IllegalArgumentException if there is no such box ..". */
    private static void boxesOfAlso() {
        for (int boxes : new int[] {0, 1, 11, 12}) {
            DangerTables x = withBoxes(boxes);
            for (int none : Edges.outside(0, boxes - 1)) {
                CHECK.illegal("box " + none + " of " + boxes, () -> x.also(none, 15, 1));
            }
            if (boxes > 0) {
                CHECK.is("the last box", x.also(boxes - 1, 15, 1), 2);
                CHECK.is("its goods", x.look(boxes - 1, 0), 2);
            }
        }
    }

    /** Promise 8: ".. good ..". */
    private static void goodsOfAlso() {
        for (int goods : new int[] {1, 2, 15, 16}) {
            DangerTables x = withGoods(goods);
            x.box(0, 1);
            for (int none : Edges.outside(0, goods - 1)) {
                CHECK.illegal("good " + none + " of " + goods, () -> x.also(0, none, 1));
            }
            CHECK.is("goods of the box", x.look(0, 0), 1);
            if (goods > 1) {
                CHECK.is("the last good", x.also(0, goods - 1, 1), 2);
            }
        }
    }

    /** Promise 8: ".. amount". */
    private static void amountsOfAlso() {
        for (int amount : Edges.ends(1, 30000)) {
            DangerTables x = withGoods(2);
            x.box(0, 5);
            for (int none : Edges.outside(1, 30000)) {
                CHECK.illegal("amount " + none, () -> x.also(0, 1, none));
            }
            CHECK.is("kilograms", x.look(0, 4), 5);
            CHECK.is("amount " + amount, x.also(0, 1, amount), 2);
            CHECK.is("kilograms", x.look(0, 4), 5 + amount);
        }
    }

    /** Terms: "up to 4 goods"; promise 8: "IllegalStateException if it .. has 4". */
    private static void fourGoods() {
        DangerTables x = withGoods(16);
        x.box(3, 30000);
        for (int i = 2; i <= 4; i++) {
            CHECK.is("good " + i, x.also(0, 3 + i, 30000), i);
            CHECK.is("goods", x.look(0, 0), i);
        }
        for (int good : new int[] {0, 4, 15}) {
            CHECK.badState("a fifth " + good, () -> x.also(0, good, 1));
        }
        CHECK.is("goods", x.look(0, 0), 4);
        CHECK.is("kilograms", x.look(0, 4), 120000);
        CHECK.is("another box has room", x.box(0, 1), 1);
        CHECK.is("for one more", x.also(1, 3, 1), 2);
    }

    /** Promise 8: "IllegalArgumentException if .. or it has that". */
    private static void goodThatItHas() {
        DangerTables x = withGoods(16);
        x.box(15, 1);
        CHECK.illegal("the first", () -> x.also(0, 15, 1));
        x.also(0, 0, 2);
        CHECK.illegal("the first of two", () -> x.also(0, 15, 1));
        CHECK.illegal("the second of two", () -> x.also(0, 0, 30000));
        x.also(0, 7, 3);
        CHECK.illegal("the second of three", () -> x.also(0, 0, 1));
        CHECK.illegal("the third of three", () -> x.also(0, 7, 1));
        CHECK.is("goods", x.look(0, 0), 3);
        CHECK.is("kilograms", x.look(0, 4), 6);
        CHECK.is("another with the same numbers", x.also(0, 6, 4), 4);
    }

    /** It is told ahead of "IllegalStateException if it .. has 4". */
    private static void goodThatItHasWhenFull() {
        DangerTables x = withGoods(5);
        x.box(0, 1);
        for (int good = 1; good < 4; good++) {
            x.also(0, good, 1);
        }
        for (int good = 0; good < 4; good++) {
            int has = good;
            CHECK.illegal("good " + good, () -> x.also(0, has, 1));
        }
        CHECK.badState("good 4", () -> x.also(0, 4, 1));
        CHECK.illegal("good 5", () -> x.also(0, 5, 1));
    }

    /** Promise 8: "IllegalStateException if it lies somewhere": in each zone, and not behind it. */
    private static void boxThatLies() {
        for (int zone = 0; zone < 4; zone++) {
            DangerTables x = withGoods(3);
            Check.boxWithPapers(x, 0, 1);
            CHECK.is("put", x.put(zone, 0, 0, 0), 0);
            CHECK.badState("it lies", () -> x.also(0, 1, 1));
            CHECK.is("goods", x.look(0, 0), 1);
            CHECK.is("take", x.take(0), zone);
            CHECK.is("it lies nowhere", x.also(0, 1, 1), 2);
            CHECK.is("put", x.put(zone, 0, 19, 19), 0);
            CHECK.badState("it lies again", () -> x.also(0, 2, 1));
        }
    }

    /** Terms: "Of several exceptions the one told first is thrown". */
    private static void argumentsBeforeTheStateOfABox() {
        DangerTables x = withGoods(6);
        Check.boxWithPapers(x, 0, 1);
        for (int good = 1; good < 4; good++) {
            x.also(0, good, 1);
        }
        x.put(0, 0, 0, 0);
        CHECK.badState("it lies and has four", () -> x.also(0, 4, 1));
        CHECK.illegal("it has that", () -> x.also(0, 3, 1));
        for (int none : Edges.outside(0, 5)) {
            CHECK.illegal("good " + none, () -> x.also(0, none, 1));
        }
        for (int none : Edges.outside(1, 30000)) {
            CHECK.illegal("amount " + none, () -> x.also(0, 4, none));
        }
        x.take(0);
        CHECK.badState("it has four", () -> x.also(0, 4, 1));
    }

    /** Terms: "LIMITED if its amount there is not above its LIMIT". */
    private static void limitedUpToTheLimit() {
        for (int limit : new int[] {0, 1, 2, 500, 999, 1000}) {
            DangerTables x = new DangerTables();
            x.good(1, 0, 2, limit, false, false);
            for (int amount : new int[] {1, limit - 1, limit, limit + 1, 30000}) {
                if (amount >= 1) {
                    int box = x.box(0, amount);
                    boolean limited = amount <= limit;
                    CHECK.is("limit " + limit + " amount " + amount, x.look(box, 5), limited ? 1 : 0);
                    CHECK.is("its papers", x.missing(box), limited ? 1 : 17);
                }
            }
        }
    }

    /** The amount "there": the amounts of one good in several boxes, or of several in one, are not one. */
    private static void limitedInThatBoxAlone() {
        DangerTables x = new DangerTables();
        x.good(1, 0, 2, 10, false, false);
        x.good(1, 0, 2, 10, false, false);
        x.good(1, 0, 2, 9, false, false);
        x.box(0, 10);
        x.box(0, 10);
        x.box(0, 11);
        x.also(0, 1, 10);
        CHECK.is("both", x.look(0, 5), 2);
        x.also(0, 2, 10);
        CHECK.is("both of three", x.look(0, 5), 2);
        CHECK.is("the same good", x.look(1, 5), 1);
        CHECK.is("the same good with more", x.look(2, 5), 0);
    }

    /** Terms: "if one of both is LIMITED, by AWAY at most". */
    private static void limitedIsAwayAtMost() {
        for (int rule = 0; rule <= 4; rule++) {
            int each = rule;
            DangerTables x = Check.withRules((a, b) -> each);
            x.good(1, 0, 2, 10, false, false);
            x.good(2, 0, 2, 1000, false, false);
            x.box(0, 10);
            x.box(0, 11);
            x.box(1, 1000);
            x.box(1, 1001);
            int away = Math.min(rule, 1);
            CHECK.is("both", x.apart(0, 2), away);
            CHECK.is("one", x.apart(0, 3), away);
            CHECK.is("the other", x.apart(1, 2), away);
            CHECK.is("neither", x.apart(1, 3), rule);
            CHECK.is("one good in two boxes", x.apart(0, 1), away);
            CHECK.is("turned", x.apart(3, 0), away);
        }
    }

    /** "AWAY at most" is no rule where there is none, and nothing where the pair is exempt. */
    private static void noRuleStaysNoRule() {
        DangerTables x = new DangerTables();
        x.good(1, 0, 2, 10, false, false);
        x.good(2, 0, 2, 0, false, false);
        x.box(0, 10);
        x.box(1, 1);
        CHECK.is("limited", x.apart(0, 1), 1);
        x.exempt(0, 2, 1);
        CHECK.is("limited and exempt", x.apart(0, 1), 0);
    }

    /** Promise 9: "IllegalArgumentException if there are none such". */
    private static void boxesOfApart() {
        for (int boxes : new int[] {0, 1, 2, 11, 12}) {
            DangerTables x = withBoxes(boxes);
            for (int none : Edges.outside(0, boxes - 1)) {
                CHECK.illegal("apart 0 " + none, () -> x.apart(0, none));
                CHECK.illegal("apart " + none + " 0", () -> x.apart(none, 0));
                CHECK.illegal("apart " + none + " " + none, () -> x.apart(none, none));
            }
            if (boxes > 1) {
                CHECK.is("first and last", x.apart(0, boxes - 1), 4);
                CHECK.is("last and first", x.apart(boxes - 1, 0), 4);
            }
        }
    }

    /** Promise 9: "or they are one"; promise 10: "IllegalArgumentException as apart()". */
    private static void boxesThatAreOne() {
        DangerTables x = withBoxes(12);
        for (int box = 0; box < 12; box++) {
            int one = box;
            CHECK.illegal("apart of " + box, () -> x.apart(one, one));
            CHECK.illegal("ship of " + box, () -> x.ship(one, one, 100));
        }
    }

    /** Terms: "the strictest rule of their classes and side classes (each of one with each of the other)". */
    private static void strictestOfClassesAndSides() {
        int[][] pairs = {{1, 3}, {1, 4}, {2, 3}, {2, 4}};
        for (int[] strict : pairs) {
            for (int rule = 0; rule <= 4; rule++) {
                int due = rule;
                DangerTables x = Check.withRules((a, b) -> a == strict[0] && b == strict[1] ? due
                        : a <= 2 && (b == 3 || b == 4) ? Math.max(0, due - 1) : 4);
                x.good(1, 2, 2, 0, false, false);
                x.good(3, 4, 2, 0, false, false);
                x.box(0, 1);
                x.box(1, 1);
                CHECK.is("rule " + rule, x.apart(0, 1), rule);
                CHECK.is("turned", x.apart(1, 0), rule);
                x.exempt(0, strict[0], strict[1]);
                CHECK.is("exempt", x.apart(0, 1), Math.max(0, rule - 1));
            }
        }
    }

    /** Terms: "TWO BOXES are to be apart by the strictest of all pairs of their goods". */
    private static void strictestOfFourTimesFour() {
        for (int a = 1; a <= 4; a++) {
            for (int b = 5; b <= 8; b++) {
                int one = a;
                int other = b;
                DangerTables x = Check.withRules((c, d) -> c == one && d == other ? 3 : c <= 4 && d >= 5 ? 1 : 4);
                for (int cls = 1; cls <= 8; cls++) {
                    Check.plain(x, cls);
                }
                x.box(0, 1);
                x.box(4, 1);
                for (int i = 1; i < 4; i++) {
                    x.also(0, i, 1);
                    x.also(1, 4 + i, 1);
                }
                CHECK.is("strictest " + a + b, x.apart(0, 1), 3);
                CHECK.is("turned " + b + a, x.apart(1, 0), 3);
            }
        }
    }

    /** Terms: "GOODS OF ONE BOX are not looked at". */
    private static void goodsOfOneBox() {
        DangerTables x = Check.withRules((a, b) -> a == 1 && b == 2 ? 4 : 0);
        Check.plain(x, 1);
        Check.plain(x, 2);
        Check.plain(x, 3);
        x.box(0, 1);
        CHECK.is("a good that is to be apart", x.also(0, 1, 1), 2);
        x.box(2, 1);
        CHECK.is("two boxes", x.apart(0, 1), 0);
        Check.allPapers(x, 0);
        CHECK.is("put", x.put(0, 0, 0, 0), 0);
        Check.allPapers(x, 1);
        CHECK.is("put beside", x.put(0, 1, 0, 1), 0);
    }

    /** Promise 10: "IllegalArgumentException as apart()". */
    private static void boxesOfShip() {
        for (int boxes : new int[] {0, 1, 2, 11, 12}) {
            DangerTables x = withBoxes(boxes);
            for (int none : Edges.outside(0, boxes - 1)) {
                CHECK.illegal("ship 0 " + none, () -> x.ship(0, none, 8));
                CHECK.illegal("ship " + none + " 0", () -> x.ship(none, 0, 8));
                CHECK.illegal("ship " + none + " " + none, () -> x.ship(none, none, 8));
            }
            if (boxes > 1) {
                CHECK.is("first and last", x.ship(0, boxes - 1, 8), true);
                CHECK.is("last and first", x.ship(boxes - 1, 0, 7), false);
            }
        }
    }

    /** Promise 10: "or if cells are not 0 .. 100". */
    private static void cellsOfShip() {
        for (int rule = 0; rule <= 4; rule++) {
            int each = rule;
            DangerTables x = Check.withRules((a, b) -> each);
            Check.plain(x, 1);
            x.box(0, 1);
            x.box(0, 1);
            for (int none : Edges.outside(0, 100)) {
                CHECK.illegal("cells " + none, () -> x.ship(0, 1, none));
                CHECK.illegal("cells " + none + " of one box", () -> x.ship(0, 0, none));
                CHECK.illegal("cells " + none + " of no box", () -> x.ship(0, 2, none));
            }
            CHECK.is("no cells", x.ship(0, 1, 0), rule == 0);
            CHECK.is("most but one", x.ship(0, 1, 99), true);
            CHECK.is("most", x.ship(0, 1, 100), true);
        }
    }

    /** Terms: "that is enough if it is at least 0, 1, 2, 4, 8 (rules 0 to 4)". */
    private static void leastCellsOfEachRule() {
        int[] least = {0, 1, 2, 4, 8};
        for (int rule = 0; rule <= 4; rule++) {
            int each = rule;
            DangerTables x = Check.withRules((a, b) -> each);
            Check.plain(x, 1);
            x.box(0, 1);
            x.box(0, 1);
            CHECK.is("just enough by " + rule, x.ship(0, 1, least[rule]), true);
            CHECK.is("one more by " + rule, x.ship(0, 1, least[rule] + 1), true);
            if (rule > 0) {
                CHECK.is("one too few by " + rule, x.ship(0, 1, least[rule] - 1), false);
            }
        }
        DangerTables x = new DangerTables();
        x.good(1, 0, 2, 10, false, false);
        x.box(0, 10);
        x.box(0, 11);
        CHECK.is("limited: one cell", x.ship(0, 1, 1), true);
        CHECK.is("limited: no cell", x.ship(0, 1, 0), false);
        x.exempt(0, 1, 1);
        CHECK.is("exempt: no cell", x.ship(0, 1, 0), true);
    }
}
