/** The sentences with boundary cases of promises 11 to 14, and of the terms that they rest on. */
public final class YardEdgesTest {
    private static final Check CHECK = new Check();

    public static void main(String[] args) {
        zonesOfMost();
        classesOfMost();
        kilogramsOfMost();
        mostAtFirst();
        mostOfNothing();
        mostToTheKilogram();
        mostOfClassAndSideTogether();
        mostBelowWhatLies();
        classesThatTheBoxHasAlone();
        moreThanAnyMost();
        greatestSums();
        zonesAndClassesOfZone();
        zoneOfBoxesThatLie();
        zonesOfPut();
        boxesOfPut();
        slotsOfPut();
        boxThatLies();
        argumentsBeforeTheStateOfABox();
        papersBar();
        slotBars();
        mostBarsWithTheLeastClass();
        leastDistances();
        lengthwiseInOneZone();
        noRuleInOneZone();
        otherZonesDoNotBar();
        leastBoxBars();
        barsInTheirOrder();
        barredBoxMayBePutElsewhere();
        lyingBoxesStay();
        fullYard();
        boxesOfTake();
        takeWhatLiesNowhere();
        takenBoxBarsNoMore();
        CHECK.end();
    }

    private static DangerTables harmless() {
        return Check.withRules((a, b) -> 0);
    }

    private static DangerTables withOneBox(int cls, int amount) {
        DangerTables x = new DangerTables();
        Check.boxWithPapers(x, Check.plain(x, cls), amount);
        return x;
    }

    /** Terms: "ZONES 0 .. 3"; promise 11: "false if there is none such". */
    private static void zonesOfMost() {
        for (int zone = 0; zone <= 3; zone++) {
            DangerTables x = withOneBox(1, 2);
            for (int none : Edges.outside(0, 3)) {
                CHECK.denies("zone " + none, () -> x.most(none, 1, 1));
            }
            CHECK.is("zone " + zone, x.most(zone, 1, 1), true);
            for (int into = 0; into <= 3; into++) {
                CHECK.is("put into " + into, x.put(into, 0, 0, 0), into == zone ? 49 : 0);
                x.take(0);
            }
        }
    }

    /** Terms: "CLASSES 1 .. 9", for most. */
    private static void classesOfMost() {
        for (int cls = 1; cls <= 9; cls++) {
            DangerTables x = new DangerTables();
            for (int none : Edges.outside(1, 9)) {
                CHECK.denies("class " + none, () -> x.most(0, none, 1));
            }
            CHECK.is("class " + cls, x.most(0, cls, 1), true);
            for (int each = 1; each <= 9; each++) {
                int box = Check.boxWithPapers(x, Check.plain(x, each), 2);
                CHECK.is("put class " + each, x.put(0, box, 0, 0), each == cls ? 48 + cls : 0);
                x.take(box);
            }
        }
    }

    /** Terms: "a MOST (0 .. 100000 kilograms"; promise 11: "or it can't be". */
    private static void kilogramsOfMost() {
        for (int most : new int[] {0, 1, 29999, 30000, 99999, 100000}) {
            DangerTables x = withOneBox(1, 30000);
            CHECK.is("most " + most, x.most(2, 1, most), true);
            for (int none : Edges.outside(0, 100000)) {
                CHECK.denies("most " + none, () -> x.most(2, 1, none));
            }
            CHECK.is("put with most " + most, x.put(2, 0, 0, 0), most < 30000 ? 49 : 0);
        }
        DangerTables x = withOneBox(1, 1);
        CHECK.is("most", x.most(0, 1, 0), true);
        CHECK.is("the same most again", x.most(0, 1, 0), true);
        CHECK.is("barred", x.put(0, 0, 0, 0), 49);
        CHECK.is("a greater most", x.most(0, 1, 1), true);
        CHECK.is("not barred", x.put(0, 0, 0, 0), 0);
    }

    /** Terms: "100000 at first", of each zone and class. */
    private static void mostAtFirst() {
        for (int zone = 0; zone <= 3; zone++) {
            for (int cls = 1; cls <= 9; cls++) {
                DangerTables x = harmless();
                Check.plain(x, cls);
                for (int box = 0; box < 3; box++) {
                    Check.boxWithPapers(x, 0, 30000);
                    CHECK.is("put", x.put(zone, box, box, 0), 0);
                }
                Check.boxWithPapers(x, 0, 10001);
                Check.boxWithPapers(x, 0, 10000);
                Check.boxWithPapers(x, 0, 1);
                CHECK.is("100001", x.put(zone, 3, 3, 0), 48 + cls);
                CHECK.is("100000", x.put(zone, 4, 3, 0), 0);
                CHECK.is("in all", x.zone(zone, cls), 100000);
                CHECK.is("one more", x.put(zone, 5, 4, 0), 48 + cls);
            }
        }
    }

    /** A MOST of 0: not a kilogram of that class, but whatever has it not. */
    private static void mostOfNothing() {
        DangerTables x = harmless();
        x.most(0, 5, 0);
        Check.boxWithPapers(x, Check.plain(x, 5), 1);
        Check.boxWithPapers(x, x.good(4, 5, 2, 0, false, false), 1);
        Check.boxWithPapers(x, x.good(4, 6, 2, 0, false, false), 30000);
        CHECK.is("that class", x.put(0, 0, 0, 0), 48 + 5);
        CHECK.is("that side class", x.put(0, 1, 0, 0), 48 + 5);
        CHECK.is("others", x.put(0, 2, 0, 0), 0);
        CHECK.is("nothing of that class", x.zone(0, 5), 0);
    }

    /** Terms: bar 3, "a class's MOST would be passed": reached is not passed. */
    private static void mostToTheKilogram() {
        DangerTables x = harmless();
        Check.plain(x, 7);
        Check.boxWithPapers(x, 0, 400);
        Check.boxWithPapers(x, 0, 600);
        CHECK.is("put", x.put(1, 0, 0, 0), 0);
        for (int most : new int[] {0, 399, 400, 599, 600, 999}) {
            x.most(1, 7, most);
            CHECK.is("most " + most, x.put(1, 1, 1, 0), 48 + 7);
        }
        x.most(1, 7, 1000);
        CHECK.is("reached", x.put(1, 1, 1, 0), 0);
        CHECK.is("in all", x.zone(1, 7), 1000);
    }

    /** Terms: "of all goods of that class, or with that SIDE class, together". */
    private static void mostOfClassAndSideTogether() {
        DangerTables x = harmless();
        int ofClass = x.good(3, 1, 2, 0, false, false);
        int withSide = x.good(9, 3, 2, 0, false, false);
        int limited = x.good(3, 2, 2, 1000, false, false);
        Check.boxWithPapers(x, ofClass, 100);
        x.put(0, 0, 0, 0);
        Check.boxWithPapers(x, withSide, 20);
        x.also(1, limited, 3);
        x.most(0, 3, 122);
        CHECK.is("one too many", x.put(0, 1, 5, 5), 48 + 3);
        x.most(0, 3, 123);
        CHECK.is("just as many", x.put(0, 1, 5, 5), 0);
        int[] due = {0, 100, 3, 123, 0, 0, 0, 0, 0, 20};
        for (int cls = 1; cls <= 9; cls++) {
            CHECK.is("of class " + cls, x.zone(0, cls), due[cls]);
        }
    }

    /** A MOST may be set below what lies there: that stays, and nothing of the class comes to it. */
    private static void mostBelowWhatLies() {
        DangerTables x = harmless();
        Check.boxWithPapers(x, Check.plain(x, 8), 30000);
        Check.boxWithPapers(x, 0, 1);
        x.put(3, 0, 19, 0);
        CHECK.is("lowered", x.most(3, 8, 0), true);
        CHECK.is("it stays", x.zone(3, 8), 30000);
        CHECK.is("its zone", x.look(0, 1), 3);
        CHECK.is("one more kilogram", x.put(3, 1, 0, 0), 48 + 8);
        CHECK.is("taken", x.take(0), 3);
        CHECK.is("it may not come back", x.put(3, 0, 19, 0), 48 + 8);
        x.most(3, 8, 100000);
        CHECK.is("now it may", x.put(3, 0, 19, 0), 0);
    }

    /** Terms: bar 3, "(of the classes that the box has, alone)". */
    private static void classesThatTheBoxHasAlone() {
        DangerTables x = harmless();
        for (int cls = 1; cls <= 9; cls++) {
            Check.boxWithPapers(x, Check.plain(x, cls), 10);
            x.put(0, cls - 1, cls, cls);
        }
        Check.boxWithPapers(x, x.good(4, 6, 2, 0, false, false), 10);
        for (int cls = 1; cls <= 9; cls++) {
            x.most(0, cls, cls == 4 || cls == 6 ? 20 : 0);
        }
        CHECK.is("others are passed", x.put(0, 9, 0, 0), 0);
        x.take(9);
        x.most(0, 6, 19);
        CHECK.is("its side class is passed", x.put(0, 9, 0, 0), 48 + 6);
    }

    /** A box alone with more than 100000 of a class is barred everywhere; with 100000 it is not. */
    private static void moreThanAnyMost() {
        DangerTables x = harmless();
        for (int i = 0; i < 4; i++) {
            x.good(2, i == 0 ? 0 : 2 + i, 2, 0, false, false);
        }
        x.box(0, 25000);
        x.box(0, 25001);
        for (int i = 1; i < 4; i++) {
            x.also(0, i, 25000);
            x.also(1, i, 25000);
        }
        Check.allPapers(x, 0);
        Check.allPapers(x, 1);
        for (int zone = 0; zone <= 3; zone++) {
            CHECK.is("100001", x.put(zone, 1, 0, 0), 48 + 2);
            CHECK.is("100000", x.put(zone, 0, 0, 0), 0);
            CHECK.is("in all", x.zone(zone, 2), 100000);
            CHECK.is("its zone", x.take(0), zone);
        }
    }

    /** The greatest numbers that there are: four times 30000 in a box, 100000 of each class in a zone. */
    private static void greatestSums() {
        DangerTables x = harmless();
        for (int cls = 1; cls <= 4; cls++) {
            Check.plain(x, cls);
        }
        for (int box = 0; box < 4; box++) {
            x.box(0, box == 3 ? 10000 : 30000);
            for (int good = 1; good < 4; good++) {
                x.also(box, good, box == 3 ? 10000 : 30000);
            }
            Check.allPapers(x, box);
            CHECK.is("put", x.put(0, box, 19, box), 0);
        }
        CHECK.is("kilograms of a box", x.look(0, 4), 120000);
        for (int cls = 1; cls <= 4; cls++) {
            CHECK.is("of class " + cls, x.zone(0, cls), 100000);
        }
        Check.boxWithPapers(x, 3, 1);
        CHECK.is("one more", x.put(0, 4, 0, 0), 48 + 4);
    }

    /** Promise 12: "IllegalArgumentException if there is no such zone or class". */
    private static void zonesAndClassesOfZone() {
        DangerTables x = withOneBox(9, 5);
        x.put(3, 0, 0, 0);
        for (int zone = 0; zone <= 3; zone++) {
            for (int cls = 1; cls <= 9; cls++) {
                CHECK.is("zone " + zone + " " + cls, x.zone(zone, cls), zone == 3 && cls == 9 ? 5 : 0);
            }
        }
        for (int none : Edges.outside(0, 3)) {
            CHECK.illegal("zone " + none, () -> x.zone(none, 1));
            CHECK.illegal("zone " + none, () -> x.zone(none, 9));
        }
        for (int none : Edges.outside(1, 9)) {
            CHECK.illegal("class " + none, () -> x.zone(0, none));
            CHECK.illegal("class " + none, () -> x.zone(3, none));
            CHECK.illegal("neither", () -> x.zone(4, none));
        }
    }

    /** Promise 12: "What lies in a zone": nothing ahead of put, behind take, or of a barred box. */
    private static void zoneOfBoxesThatLie() {
        DangerTables x = new DangerTables();
        x.box(Check.plain(x, 1), 5);
        CHECK.is("not put", x.zone(0, 1), 0);
        CHECK.is("barred", x.put(0, 0, 0, 0), 16);
        CHECK.is("barred", x.zone(0, 1), 0);
        Check.allPapers(x, 0);
        x.put(0, 0, 0, 0);
        CHECK.is("it lies", x.zone(0, 1), 5);
        x.take(0);
        CHECK.is("taken", x.zone(0, 1), 0);
        x.put(2, 0, 0, 0);
        CHECK.is("elsewhere", x.zone(0, 1), 0);
        CHECK.is("there", x.zone(2, 1), 5);
    }

    /** Promise 13: "IllegalArgumentException if there is no such zone ..". */
    private static void zonesOfPut() {
        DangerTables x = withOneBox(1, 1);
        for (int none : Edges.outside(0, 3)) {
            CHECK.illegal("zone " + none, () -> x.put(none, 0, 0, 0));
        }
        CHECK.is("it lies nowhere", x.look(0, 1), -1);
        for (int zone = 0; zone <= 3; zone++) {
            CHECK.is("put into " + zone, x.put(zone, 0, 0, 0), 0);
            CHECK.is("its zone", x.look(0, 1), zone);
            CHECK.is("take", x.take(0), zone);
        }
    }

    /** Promise 13: ".. box ..". */
    private static void boxesOfPut() {
        for (int boxes : new int[] {0, 1, 2, 12}) {
            DangerTables x = new DangerTables();
            Check.plain(x, 1);
            for (int i = 0; i < boxes; i++) {
                Check.boxWithPapers(x, 0, 1);
            }
            for (int none : Edges.outside(0, boxes - 1)) {
                CHECK.illegal("box " + none + " of " + boxes, () -> x.put(0, none, 0, 0));
            }
            CHECK.is("boxes that lie", x.count(3), 0);
            if (boxes > 0) {
                CHECK.is("the last", x.put(0, boxes - 1, 0, 0), 0);
                CHECK.is("its x", x.look(boxes - 1, 2), 0);
            }
        }
    }

    /** Terms: "SLOTS by x and y (0 .. 19)"; promise 13: ".. or slot". */
    private static void slotsOfPut() {
        DangerTables x = withOneBox(1, 1);
        for (int slotX : Edges.ends(0, 19)) {
            for (int none : Edges.outside(0, 19)) {
                CHECK.illegal("x " + none, () -> x.put(0, 0, none, slotX));
                CHECK.illegal("y " + none, () -> x.put(0, 0, slotX, none));
            }
            for (int slotY : Edges.ends(0, 19)) {
                CHECK.is("slot " + slotX + " " + slotY, x.put(0, 0, slotX, slotY), 0);
                CHECK.is("x", x.look(0, 2), slotX);
                CHECK.is("y", x.look(0, 3), slotY);
                x.take(0);
            }
        }
        CHECK.illegal("neither", () -> x.put(0, 0, 20, 20));
    }

    /** Promise 13: "IllegalStateException if it lies somewhere". */
    private static void boxThatLies() {
        for (int zone = 0; zone <= 3; zone++) {
            DangerTables x = withOneBox(1, 1);
            x.put(zone, 0, 0, 0);
            for (int into = 0; into <= 3; into++) {
                int where = into;
                CHECK.badState("into " + into, () -> x.put(where, 0, 0, 0));
                CHECK.badState("into " + into, () -> x.put(where, 0, 19, 19));
            }
            CHECK.is("its zone", x.look(0, 1), zone);
            CHECK.is("its x", x.look(0, 2), 0);
            CHECK.is("take", x.take(0), zone);
            CHECK.is("put", x.put(3 - zone, 0, 19, 19), 0);
        }
    }

    /** Terms: "Of several exceptions the one told first is thrown". */
    private static void argumentsBeforeTheStateOfABox() {
        DangerTables x = withOneBox(1, 1);
        x.put(0, 0, 0, 0);
        for (int none : Edges.outside(0, 3)) {
            CHECK.illegal("zone " + none, () -> x.put(none, 0, 0, 0));
        }
        for (int none : Edges.outside(0, 19)) {
            CHECK.illegal("x " + none, () -> x.put(0, 0, none, 0));
            CHECK.illegal("y " + none, () -> x.put(0, 0, 0, none));
        }
        x.take(0);
        x.box(0, 1);
        CHECK.illegal("no slot ahead of papers", () -> x.put(0, 1, 20, 0));
    }

    /** Terms: bar 1, "its papers are not whole": "WHOLE if all that are wanted were told". */
    private static void papersBar() {
        for (int told = 0; told < 32; told++) {
            for (int wanted = 0; wanted < 16; wanted++) {
                DangerTables x = new DangerTables();
                int limit = (wanted & 8) != 0 ? 0 : 1;
                x.good(1, 0, (wanted & 1) != 0 ? 1 : 2, limit, (wanted & 2) != 0, (wanted & 4) != 0);
                x.box(0, 1);
                for (int field = 0; field < 5; field++) {
                    if ((told >> field & 1) != 0) {
                        x.paper(0, field);
                    }
                }
                int fields = 1 + 2 * wanted;
                CHECK.is("told " + told + " of " + fields, x.put(0, 0, 0, 0), (fields & ~told) != 0 ? 16 : 0);
                CHECK.is("boxes that lie", x.count(3), (fields & ~told) != 0 ? 0 : 1);
            }
        }
    }

    /** Terms: "No two boxes on one slot", also where no rule keeps them apart. */
    private static void slotBars() {
        DangerTables x = harmless();
        Check.plain(x, 1);
        Check.boxWithPapers(x, 0, 1);
        Check.boxWithPapers(x, 0, 1);
        for (int slotX : Edges.ends(0, 19)) {
            for (int slotY : Edges.ends(0, 19)) {
                x.put(3, 0, slotX, slotY);
                CHECK.is("taken", x.put(3, 1, slotX, slotY), 32);
                CHECK.is("beside", x.put(3, 1, slotX == 0 ? 1 : slotX - 1, slotY), 0);
                x.take(1);
                CHECK.is("above", x.put(3, 1, slotX, slotY == 0 ? 1 : slotY - 1), 0);
                x.take(1);
                CHECK.is("another zone", x.put(2, 1, slotX, slotY), 0);
                x.take(1);
                x.take(0);
            }
        }
    }

    /** Promise 13: "by 3 the class (the least)". */
    private static void mostBarsWithTheLeastClass() {
        for (int cls = 1; cls <= 9; cls++) {
            for (int other = 1; other <= 9; other++) {
                if (cls != other) {
                    DangerTables x = new DangerTables();
                    x.good(cls, other, 2, 0, false, false);
                    Check.boxWithPapers(x, 0, 10);
                    x.most(0, cls, 9);
                    CHECK.is("its class " + cls, x.put(0, 0, 0, 0), 48 + cls);
                    x.most(0, other, 9);
                    CHECK.is("the less " + cls + other, x.put(0, 0, 0, 0), 48 + Math.min(cls, other));
                    x.most(0, cls, 10);
                    CHECK.is("its side " + other, x.put(0, 0, 0, 0), 48 + other);
                    x.most(0, other, 10);
                    CHECK.is("neither", x.put(0, 0, 0, 0), 0);
                }
            }
        }
    }

    /** Terms: "a DISTANCE (|dx| + |dy|) of at least 3, 6, 12 (rules 1 to 3)". */
    private static void leastDistances() {
        int[] least = {0, 3, 6, 12};
        for (int rule = 1; rule <= 3; rule++) {
            int each = rule;
            for (int dx = -least[rule]; dx <= least[rule]; dx++) {
                DangerTables x = Check.withRules((a, b) -> each);
                Check.plain(x, 1);
                Check.boxWithPapers(x, 0, 1);
                Check.boxWithPapers(x, 0, 1);
                int from = dx < 0 ? 19 : 0;
                int dy = least[rule] - Math.abs(dx);
                x.put(0, 0, from, 0);
                distanceIs(x, from + dx, dy);
                x.take(0);
                x.put(0, 0, from, 19);
                distanceIs(x, from + dx, 19 - dy);
            }
        }
    }

    /** The slot is just far enough from box 0; those nearer by one are not. */
    private static void distanceIs(DangerTables x, int slotX, int slotY) {
        int fromX = x.look(0, 2);
        int fromY = x.look(0, 3);
        if (slotX != fromX) {
            CHECK.is("one nearer by x", x.put(0, 1, slotX + (slotX > fromX ? -1 : 1), slotY), 64);
        }
        if (slotY != fromY) {
            CHECK.is("one nearer by y", x.put(0, 1, slotX, slotY + (slotY > fromY ? -1 : 1)), 64);
        }
        CHECK.is("far enough", x.put(0, 1, slotX, slotY), 0);
        CHECK.is("take", x.take(1), 0);
    }

    /** Terms: "rule 4: not in one zone", at the farthest slots. */
    private static void lengthwiseInOneZone() {
        for (int zone = 0; zone <= 3; zone++) {
            DangerTables x = withOneBox(1, 1);
            Check.boxWithPapers(x, 0, 1);
            x.put(zone, 0, 0, 0);
            CHECK.is("the farthest slot", x.put(zone, 1, 19, 19), 64);
            CHECK.is("the next slot", x.put(zone, 1, 0, 1), 64);
            CHECK.is("another zone", x.put((zone + 1) % 4, 1, 0, 0), 0);
        }
    }

    /** "Two boxes of one zone with a rule": without one the next slot is far enough. */
    private static void noRuleInOneZone() {
        DangerTables x = harmless();
        Check.plain(x, 1);
        Check.boxWithPapers(x, 0, 1);
        Check.boxWithPapers(x, 0, 1);
        x.put(0, 0, 19, 19);
        CHECK.is("the next slot", x.put(0, 1, 18, 19), 0);
        x.take(1);
        CHECK.is("the next slot", x.put(0, 1, 19, 18), 0);
    }

    /** "Two boxes of one zone": those of other zones or of none are no bar. */
    private static void otherZonesDoNotBar() {
        DangerTables x = new DangerTables();
        Check.plain(x, 1);
        for (int box = 0; box < 6; box++) {
            Check.boxWithPapers(x, 0, 1);
        }
        for (int zone = 0; zone <= 3; zone++) {
            CHECK.is("zone " + zone, x.put(zone, zone + 1, 10, 10), 0);
        }
        CHECK.is("boxes that lie", x.count(3), 4);
        for (int zone = 0; zone <= 3; zone++) {
            CHECK.is("zone " + zone, x.put(zone, 5, 0, 0), 64 + zone + 1);
            CHECK.is("zone " + zone, x.put(zone, 0, 0, 0), 64 + zone + 1);
        }
    }

    /** Terms: bar 4, "another box of the zone (the least)"; promise 13: "by 4 the box". */
    private static void leastBoxBars() {
        for (int own = 0; own < 12; own++) {
            DangerTables x = Check.withRules((a, b) -> a == 1 && b == 2 ? 3 : 0);
            Check.plain(x, 1);
            Check.plain(x, 2);
            for (int box = 0; box < 12; box++) {
                Check.boxWithPapers(x, box == own ? 1 : 0, 1);
            }
            for (int box = 11; box >= 0; box--) {
                if (box != own) {
                    CHECK.is("put " + box, x.put(0, box, 10, 4 + box), 0);
                    CHECK.is("the least is " + box, x.put(0, own, 9, 9), 64 + box);
                }
            }
            for (int box = 0; box < 12; box++) {
                int least = box + 1 == own ? box + 2 : box + 1;
                x.take(box);
                if (box != own) {
                    CHECK.is("without " + box, x.put(0, own, 9, 9), least < 12 ? 64 + least : 0);
                }
            }
        }
    }

    /** Terms: "what bars first, of: 1 .. 2 .. 3 .. 4 ..". */
    private static void barsInTheirOrder() {
        DangerTables x = new DangerTables();
        Check.plain(x, 6);
        Check.boxWithPapers(x, 0, 10);
        x.put(0, 0, 4, 4);
        x.box(0, 10);
        x.most(0, 6, 19);
        CHECK.is("all four", x.put(0, 1, 4, 4), 16);
        CHECK.is("all but the slot", x.put(0, 1, 5, 5), 16);
        x.paper(1, 0);
        CHECK.is("half the papers", x.put(0, 1, 4, 4), 16);
        x.paper(1, 4);
        CHECK.is("all but papers", x.put(0, 1, 4, 4), 32);
        CHECK.is("most and distance", x.put(0, 1, 5, 5), 48 + 6);
        x.most(0, 6, 20);
        CHECK.is("slot and distance", x.put(0, 1, 4, 4), 32);
        CHECK.is("distance", x.put(0, 1, 5, 5), 64);
        x.exempt(0, 6, 6);
        CHECK.is("slot", x.put(0, 1, 4, 4), 32);
        CHECK.is("nothing", x.put(0, 1, 5, 5), 0);
    }

    /** A barred box lies nowhere: it may be put elsewhere, and what bars it is gone when it is gone. */
    private static void barredBoxMayBePutElsewhere() {
        DangerTables x = withOneBox(1, 1);
        Check.boxWithPapers(x, 0, 1);
        x.put(0, 0, 4, 4);
        CHECK.is("barred", x.put(0, 1, 5, 5), 64);
        CHECK.is("its zone", x.look(1, 1), -1);
        CHECK.is("its x", x.look(1, 2), -1);
        CHECK.is("its y", x.look(1, 3), -1);
        CHECK.is("boxes that lie", x.count(3), 1);
        CHECK.is("what lies", x.zone(0, 1), 1);
        CHECK.is("nothing to take", x.take(1), -1);
        CHECK.is("elsewhere", x.put(1, 1, 5, 5), 0);
        x.take(1);
        x.take(0);
        CHECK.is("nothing bars", x.put(0, 1, 5, 5), 0);
    }

    /** Boxes that lie are not looked at again when a table comes that keeps them apart. */
    private static void lyingBoxesStay() {
        DangerTables x = harmless();
        Check.plain(x, 1);
        Check.boxWithPapers(x, 0, 1);
        Check.boxWithPapers(x, 0, 1);
        x.put(0, 0, 4, 4);
        x.put(0, 1, 4, 5);
        Check.read(x, Check.table((a, b) -> 4));
        CHECK.is("apart", x.apart(0, 1), 4);
        CHECK.is("the one stays", x.look(0, 1), 0);
        CHECK.is("the other stays", x.look(1, 1), 0);
        CHECK.is("taken", x.take(1), 0);
        CHECK.is("it may not come back", x.put(0, 1, 4, 5), 64);
    }

    /** Terms: "BOXES .. (12 at most)": all of them in one zone, and none of them again. */
    private static void fullYard() {
        DangerTables x = harmless();
        for (int i = 0; i < 16; i++) {
            Check.plain(x, 1 + i % 9);
        }
        for (int box = 0; box < 12; box++) {
            Check.boxWithPapers(x, box, box + 1);
            CHECK.is("put", x.put(3, box, box < 6 ? 0 : 19, box < 6 ? box : box + 8), 0);
            CHECK.is("boxes that lie", x.count(3), box + 1);
        }
        for (int box = 0; box < 12; box++) {
            CHECK.is("take", x.take(box), 3);
            CHECK.is("boxes that lie", x.count(3), 11 - box);
        }
    }

    /** Promise 14: "IllegalArgumentException if there is none such". */
    private static void boxesOfTake() {
        for (int boxes : new int[] {0, 1, 2, 12}) {
            DangerTables x = new DangerTables();
            Check.plain(x, 1);
            for (int i = 0; i < boxes; i++) {
                x.box(0, 1);
            }
            for (int none : Edges.outside(0, boxes - 1)) {
                CHECK.illegal("box " + none + " of " + boxes, () -> x.take(none));
            }
            for (int box = 0; box < boxes; box++) {
                CHECK.is("box " + box, x.take(box), -1);
            }
        }
    }

    /** Promise 14: "NONE if it lies nowhere": never put, barred, taken before. */
    private static void takeWhatLiesNowhere() {
        DangerTables x = new DangerTables();
        x.box(Check.plain(x, 1), 1);
        CHECK.is("never put", x.take(0), DangerTables.NONE);
        x.put(0, 0, 0, 0);
        CHECK.is("barred", x.take(0), DangerTables.NONE);
        Check.allPapers(x, 0);
        for (int zone = 0; zone <= 3; zone++) {
            CHECK.is("put", x.put(zone, 0, 0, 0), 0);
            CHECK.is("it lies", x.take(0), zone);
            CHECK.is("taken before", x.take(0), DangerTables.NONE);
            CHECK.is("its zone", x.look(0, 1), DangerTables.NONE);
            CHECK.is("its x", x.look(0, 2), DangerTables.NONE);
            CHECK.is("its y", x.look(0, 3), DangerTables.NONE);
        }
        CHECK.is("its goods", x.look(0, 0), 1);
        CHECK.is("its kilograms", x.look(0, 4), 1);
    }

    /** Terms: "It may be TAKEN away again": slot, kilograms and distance are free behind it. */
    private static void takenBoxBarsNoMore() {
        DangerTables x = withOneBox(1, 30000);
        Check.boxWithPapers(x, 0, 30000);
        x.most(0, 1, 30000);
        x.put(0, 0, 9, 9);
        CHECK.is("the slot", x.put(0, 1, 9, 9), 32);
        CHECK.is("the most", x.put(0, 1, 0, 0), 49);
        x.most(0, 1, 60000);
        CHECK.is("the distance", x.put(0, 1, 0, 0), 64);
        x.most(0, 1, 30000);
        x.take(0);
        CHECK.is("nothing", x.put(0, 1, 9, 9), 0);
    }
}
