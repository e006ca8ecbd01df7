/** The sentences with boundary cases of promises 15 to 18, and of the terms that they rest on. */
public final class PapersEdgesTest {
    private static final Check CHECK = new Check();

    public static void main(String[] args) {
        fieldsOfPaper();
        boxesOfPaper();
        fieldThatWasTold();
        fieldThatIsNotWanted();
        papersOfALyingBox();
        boxesOfMissing();
        alwaysWanted();
        wantedByTheGroup();
        wantedByTheMarks();
        wantedAboveTheLimit();
        wantedBySomeGood();
        goodThatComesLater();
        whole();
        boxesOfLook();
        whatsOfLook();
        lookAtABoxThatLiesNowhere();
        lookAtTheFirstAndTheLastSlot();
        lookAtGoodsAndKilograms();
        lookAtLimitedGoods();
        lookAtFieldsThatWereTold();
        whatsOfCount();
        countSigns();
        countGoodsAndBoxes();
        countBoxesThatLie();
        countTables();
        CHECK.end();
    }

    private static DangerTables withBoxes(int boxes) {
        DangerTables x = new DangerTables();
        Check.plain(x, 1);
        for (int i = 0; i < boxes; i++) {
            x.box(0, 1);
        }
        return x;
    }

    /** Terms: "FIELDS 0 .. 4"; promise 15: "false if there is none such". */
    private static void fieldsOfPaper() {
        DangerTables x = withBoxes(1);
        for (int none : Edges.outside(0, 4)) {
            CHECK.denies("field " + none, () -> x.paper(0, none));
        }
        // A shift by a field takes its last five bits alone.
        for (int none : new int[] {31, 32, 33, 34, 35, 36, 64, -31, -32, Integer.MIN_VALUE + 1}) {
            CHECK.denies("field " + none, () -> x.paper(0, none));
        }
        CHECK.is("told", x.look(0, 6), 0);
        for (int field = 0; field <= 4; field++) {
            CHECK.is("field " + field, x.paper(0, field), true);
        }
        CHECK.is("told", x.look(0, 6), 31);
        CHECK.denies("field 5", () -> x.paper(0, 5));
        CHECK.is("told", x.look(0, 6), 31);
    }

    /** Promise 15: "false if there is none such", of boxes. */
    private static void boxesOfPaper() {
        for (int boxes : new int[] {0, 1, 2, 11, 12}) {
            DangerTables x = withBoxes(boxes);
            for (int none : Edges.outside(0, boxes - 1)) {
                CHECK.denies("box " + none + " of " + boxes, () -> x.paper(none, 0));
            }
            for (int box = 0; box < boxes; box++) {
                CHECK.is("box " + box, x.paper(box, 0), true);
            }
            for (int box = 0; box < boxes; box++) {
                CHECK.is("told of " + box, x.look(box, 6), 1);
            }
        }
    }

    /** Promise 15: "or it was". */
    private static void fieldThatWasTold() {
        for (int first = 0; first <= 4; first++) {
            DangerTables x = withBoxes(2);
            int field = first;
            CHECK.is("first", x.paper(1, field), true);
            CHECK.denies("again", () -> x.paper(1, field));
            CHECK.is("told", x.look(1, 6), 1 << field);
            CHECK.is("another box", x.paper(0, field), true);
            for (int other = 0; other <= 4; other++) {
                CHECK.is("field " + other, x.paper(1, other), other != field);
            }
            CHECK.denies("and again", () -> x.paper(1, field));
            CHECK.is("told", x.look(1, 6), 31);
        }
    }

    /** Promise 15 asks for no want: each field can be told, and told once. */
    private static void fieldThatIsNotWanted() {
        DangerTables x = new DangerTables();
        x.box(x.good(1, 0, 3, 1, false, false), 1);
        CHECK.is("wanted", x.missing(0), 1);
        for (int field = 1; field <= 4; field++) {
            int unwanted = field;
            CHECK.is("field " + field, x.paper(0, field), true);
            CHECK.denies("again " + field, () -> x.paper(0, unwanted));
            CHECK.is("wanted", x.missing(0), 1);
        }
        CHECK.is("told", x.look(0, 6), 30);
        CHECK.is("not whole", x.put(0, 0, 0, 0), 16);
    }

    private static void papersOfALyingBox() {
        DangerTables x = withBoxes(1);
        x.paper(0, 0);
        x.paper(0, 4);
        x.put(0, 0, 0, 0);
        CHECK.is("one more", x.paper(0, 3), true);
        CHECK.denies("again", () -> x.paper(0, 3));
        CHECK.is("told", x.look(0, 6), 25);
        x.take(0);
        CHECK.is("told behind take", x.look(0, 6), 25);
        CHECK.denies("again behind take", () -> x.paper(0, 3));
    }

    /** Promise 16: "IllegalArgumentException if there is no such box". */
    private static void boxesOfMissing() {
        for (int boxes : new int[] {0, 1, 2, 11, 12}) {
            DangerTables x = withBoxes(boxes);
            for (int none : Edges.outside(0, boxes - 1)) {
                CHECK.illegal("box " + none + " of " + boxes, () -> x.missing(none));
            }
            for (int box = 0; box < boxes; box++) {
                CHECK.is("box " + box, x.missing(box), 17);
            }
        }
    }

    private static int wanted(int group, int limit, boolean marine, boolean temperature, int amount) {
        DangerTables x = new DangerTables();
        x.box(x.good(1, 0, group, limit, marine, temperature), amount);
        return x.missing(0);
    }

    /** Terms: "0 always wanted". */
    private static void alwaysWanted() {
        CHECK.is("nothing else is", wanted(2, 1, false, false, 1), 1);
        CHECK.is("all others are", wanted(1, 0, true, true, 1), 31);
    }

    /** Terms: "1 if some good of it has GROUP 1". */
    private static void wantedByTheGroup() {
        CHECK.is("group 1", wanted(1, 1, false, false, 1), 3);
        CHECK.is("group 2", wanted(2, 1, false, false, 1), 1);
        CHECK.is("group 3", wanted(3, 1, false, false, 1), 1);
    }

    /** Terms: "2 if some is MARINE; 3 if some has TEMPERATURE". */
    private static void wantedByTheMarks() {
        CHECK.is("marine", wanted(2, 1, true, false, 1), 5);
        CHECK.is("temperature", wanted(2, 1, false, true, 1), 9);
        CHECK.is("both", wanted(2, 1, true, true, 1), 13);
    }

    /** Terms: "4 if some is not LIMITED". */
    private static void wantedAboveTheLimit() {
        CHECK.is("limit 0", wanted(2, 0, false, false, 1), 17);
        CHECK.is("at the limit", wanted(2, 1000, false, false, 1000), 1);
        CHECK.is("above it", wanted(2, 1000, false, false, 1001), 17);
        CHECK.is("far above it", wanted(2, 1000, false, false, 30000), 17);
    }

    /** "some good of it": the first, the last or one between of four; goods of other boxes are none. */
    private static void wantedBySomeGood() {
        for (int place = 0; place < 4; place++) {
            DangerTables x = new DangerTables();
            for (int i = 0; i < 4; i++) {
                boolean it = i == place;
                x.good(1, 0, it ? 1 : 3, it ? 0 : 1, it, it);
            }
            x.box(0, 1);
            for (int i = 1; i < 4; i++) {
                x.also(0, i, 1);
            }
            CHECK.is("good " + place, x.missing(0), 31);
            x.box(place == 0 ? 1 : 0, 1);
            CHECK.is("a box without it", x.missing(1), 1);
        }
    }

    /** A good that comes later wants its fields, but for those that were told ahead of it. */
    private static void goodThatComesLater() {
        DangerTables x = new DangerTables();
        x.good(1, 0, 3, 1, false, false);
        x.good(1, 0, 1, 0, true, true);
        x.box(0, 1);
        x.paper(0, 0);
        x.paper(0, 2);
        CHECK.is("whole", x.missing(0), 0);
        x.also(0, 1, 1);
        CHECK.is("not whole", x.missing(0), 2 + 8 + 16);
        CHECK.is("barred", x.put(0, 0, 0, 0), 16);
    }

    /** Terms: "WHOLE if all that are wanted were told": all but one is not. */
    private static void whole() {
        for (int last = 0; last <= 4; last++) {
            DangerTables x = new DangerTables();
            x.box(x.good(1, 0, 1, 0, true, true), 1);
            for (int field = 0; field <= 4; field++) {
                if (field != last) {
                    x.paper(0, field);
                }
            }
            CHECK.is("missing", x.missing(0), 1 << last);
            CHECK.is("barred", x.put(0, 0, 0, 0), 16);
            x.paper(0, last);
            CHECK.is("nothing missing", x.missing(0), 0);
            CHECK.is("put", x.put(0, 0, 0, 0), 0);
        }
    }

    /** Promise 17: "IndexOutOfBoundsException if there is no such box ..". */
    private static void boxesOfLook() {
        for (int boxes : new int[] {0, 1, 2, 11, 12}) {
            DangerTables x = withBoxes(boxes);
            for (int none : Edges.outside(0, boxes - 1)) {
                for (int what = 0; what <= 6; what++) {
                    int which = what;
                    CHECK.outOfBounds("box " + none + " of " + boxes, () -> x.look(none, which));
                }
                CHECK.outOfBounds("neither", () -> x.look(none, none));
            }
            for (int box = 0; box < boxes; box++) {
                CHECK.is("box " + box, x.look(box, 0), 1);
            }
        }
    }

    /** Promise 17: ".. or what". */
    private static void whatsOfLook() {
        DangerTables x = withBoxes(12);
        for (int box : Edges.ends(0, 11)) {
            for (int none : Edges.outside(0, 6)) {
                CHECK.outOfBounds("what " + none, () -> x.look(box, none));
            }
        }
        int[] due = {1, -1, -1, -1, 1, 0, 0};
        for (int what = 0; what <= 6; what++) {
            CHECK.is("what " + what, x.look(11, what), due[what]);
        }
    }

    /** Promise 17: "1: its zone (NONE), 2: x, 3: y (NONE)". */
    private static void lookAtABoxThatLiesNowhere() {
        DangerTables x = withBoxes(1);
        placeIs(x, -1, -1, -1);
        CHECK.is("barred", x.put(2, 0, 3, 4), 16);
        placeIs(x, -1, -1, -1);
        Check.allPapers(x, 0);
        CHECK.is("put", x.put(2, 0, 3, 4), 0);
        placeIs(x, 2, 3, 4);
        x.take(0);
        placeIs(x, -1, -1, -1);
    }

    private static void lookAtTheFirstAndTheLastSlot() {
        DangerTables x = withBoxes(1);
        Check.allPapers(x, 0);
        x.put(0, 0, 0, 0);
        placeIs(x, 0, 0, 0);
        x.take(0);
        x.put(3, 0, 19, 19);
        placeIs(x, 3, 19, 19);
        x.take(0);
        x.put(1, 0, 0, 19);
        placeIs(x, 1, 0, 19);
        x.take(0);
        x.put(1, 0, 19, 0);
        placeIs(x, 1, 19, 0);
    }

    private static void placeIs(DangerTables x, int zone, int slotX, int slotY) {
        CHECK.is("zone", x.look(0, 1), zone);
        CHECK.is("x", x.look(0, 2), slotX);
        CHECK.is("y", x.look(0, 3), slotY);
    }

    /** Promise 17: "0: goods .. 4: kilograms in all", from the least to the most. */
    private static void lookAtGoodsAndKilograms() {
        for (int amount : Edges.ends(1, 30000)) {
            DangerTables x = new DangerTables();
            for (int i = 0; i < 4; i++) {
                x.good(1, 2, 1, 1000, false, false);
            }
            x.box(0, amount);
            for (int goods = 1; goods <= 4; goods++) {
                if (goods > 1) {
                    x.also(0, goods - 1, amount);
                }
                CHECK.is("goods", x.look(0, 0), goods);
                CHECK.is("kilograms", x.look(0, 4), goods * amount);
            }
        }
    }

    /** Promise 17: "5: goods that are LIMITED", from none of four to all four. */
    private static void lookAtLimitedGoods() {
        for (int limited = 0; limited <= 4; limited++) {
            for (int turn = 0; turn < 2; turn++) {
                DangerTables x = new DangerTables();
                for (int i = 0; i < 4; i++) {
                    int place = turn == 0 ? i : 3 - i;
                    x.good(1 + i, 0, 2, place < limited ? 10 : 9, false, false);
                }
                x.box(0, 10);
                for (int i = 1; i < 4; i++) {
                    x.also(0, i, 10);
                }
                CHECK.is("limited", x.look(0, 5), limited);
            }
        }
    }

    /** Promise 17: "6: FIELDS that were told, as bits": each set of them. */
    private static void lookAtFieldsThatWereTold() {
        for (int set = 0; set < 32; set++) {
            DangerTables x = withBoxes(1);
            for (int field = 4; field >= 0; field--) {
                if ((set >> field & 1) != 0) {
                    x.paper(0, field);
                }
            }
            CHECK.is("told", x.look(0, 6), set);
            CHECK.is("missing", x.missing(0), 17 & ~set);
        }
    }

    /** Promise 18: "NONE for another what". */
    private static void whatsOfCount() {
        DangerTables empty = new DangerTables();
        DangerTables x = Check.withRules((a, b) -> 0);
        Check.plain(x, 1);
        for (int none : Edges.outside(0, 4)) {
            CHECK.is("count " + none, empty.count(none), DangerTables.NONE);
            CHECK.is("count " + none, x.count(none), DangerTables.NONE);
        }
        for (int what = 0; what <= 4; what++) {
            CHECK.is("count " + what + " of an empty object", empty.count(what), 0);
        }
    }

    /** Promise 18: "0: signs of the text", from none to 300. */
    private static void countSigns() {
        DangerTables x = new DangerTables();
        Check.sign(x, "1".repeat(299));
        CHECK.is("299", x.count(0), 299);
        x.sign(';');
        CHECK.is("300", x.count(0), 300);
        x.sign(';');
        CHECK.is("300", x.count(0), 300);
        x.read();
        CHECK.is("none", x.count(0), 0);
        x.sign('a');
        CHECK.is("none", x.count(0), 0);
    }

    /** Promise 18: "1: goods, 2: boxes", from none to 16 and 12; what was refused is not counted. */
    private static void countGoodsAndBoxes() {
        DangerTables x = new DangerTables();
        for (int i = 1; i <= 18; i++) {
            Check.answer(() -> x.good(1, 0, 1, 0, false, false));
            Check.answer(() -> x.good(1, 1, 1, 0, false, false));
            CHECK.is("goods", x.count(1), Math.min(i, 16));
        }
        CHECK.is("boxes", x.count(2), 0);
        for (int i = 1; i <= 14; i++) {
            Check.answer(() -> x.box(15, 1));
            Check.answer(() -> x.box(16, 1));
            CHECK.is("boxes", x.count(2), Math.min(i, 12));
        }
        x.also(0, 3, 1);
        CHECK.is("goods", x.count(1), 16);
        CHECK.is("boxes", x.count(2), 12);
    }

    /** Promise 18: "3: boxes that lie somewhere", from none to 12. */
    private static void countBoxesThatLie() {
        DangerTables x = Check.withRules((a, b) -> 0);
        Check.plain(x, 1);
        for (int box = 0; box < 12; box++) {
            x.box(0, 1);
            CHECK.is("not put", x.count(3), box);
            x.put(box % 4, box, box, box);
            CHECK.is("barred", x.count(3), box);
            Check.allPapers(x, box);
            x.put(box % 4, box, box, box);
            CHECK.is("put", x.count(3), box + 1);
            Check.answer(() -> x.put(0, 0, 0, 0));
            CHECK.is("put again", x.count(3), box + 1);
        }
        for (int box = 11; box >= 0; box--) {
            x.take(box);
            CHECK.is("taken", x.count(3), box);
            x.take(box);
            CHECK.is("taken again", x.count(3), box);
        }
    }

    /** Promise 18: "4: 1 if a table was read, else 0". */
    private static void countTables() {
        String table = Check.table((a, b) -> 4);
        DangerTables x = new DangerTables();
        CHECK.is("none", x.count(4), 0);
        x.read();
        CHECK.is("an empty text", x.count(4), 0);
        Check.read(x, "110;");
        CHECK.is("a wrong text", x.count(4), 0);
        Check.sign(x, table);
        CHECK.is("not yet", x.count(4), 0);
        x.read();
        CHECK.is("a table like that at first", x.count(4), 1);
        x.read();
        CHECK.is("an empty text after it", x.count(4), 1);
        Check.read(x, "0");
        CHECK.is("a wrong text after it", x.count(4), 1);
        Check.read(x, table);
        CHECK.is("a second", x.count(4), 1);
    }
}
