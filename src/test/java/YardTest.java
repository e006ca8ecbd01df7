/** Promises 11 to 14: most, zone, put, take. */
public final class YardTest {
    private static final Check CHECK = new Check();

    public static void main(String[] args) {
        mostAnswers();
        mostOfEachZoneAndClass();
        mostAtFirst();
        loweredMost();
        sums();
        wrongPlaces();
        papersBarFirst();
        slotBarsSecond();
        mostBarsThird();
        distances();
        leastBoxBars();
        limitedAndExemptInTheYard();
        takes();
        CHECK.end();
    }

    private static DangerTables harmless() {
        return Check.withRules((a, b) -> 0);
    }

    private static void mostAnswers() {
        DangerTables x = harmless();
        for (int none : new int[] {-1, 4, Integer.MIN_VALUE, Integer.MAX_VALUE}) {
            CHECK.denies("no zone", () -> x.most(none, 1, 1));
        }
        for (int none : new int[] {-1, 0, 10, Integer.MIN_VALUE, Integer.MAX_VALUE}) {
            CHECK.denies("no class", () -> x.most(0, none, 1));
        }
        for (int none : new int[] {-1, 100001, Integer.MIN_VALUE, Integer.MAX_VALUE}) {
            CHECK.denies("no most", () -> x.most(0, 1, none));
        }
        CHECK.is("most", x.most(0, 1, 5), true);
        CHECK.is("the same again", x.most(0, 1, 5), true);
        CHECK.denies("refused", () -> x.most(0, 1, -1));
        CHECK.denies("refused", () -> x.most(0, 1, 100001));
        Check.boxWithPapers(x, Check.plain(x, 1), 6);
        CHECK.is("the refused ones changed nothing", x.put(0, 0, 0, 0), 49);
        CHECK.is("the greatest", x.most(0, 1, 100000), true);
        CHECK.is("it is there", x.put(0, 0, 0, 0), 0);
        CHECK.is("the least", x.most(3, 9, 0), true);
    }

    private static void mostOfEachZoneAndClass() {
        for (int zone = 0; zone < 4; zone++) {
            for (int cls = 1; cls <= 9; cls++) {
                mostOfOne(zone, cls);
            }
        }
    }

    private static void mostOfOne(int zone, int cls) {
        DangerTables x = harmless();
        for (int each = 1; each <= 9; each++) {
            Check.boxWithPapers(x, Check.plain(x, each), 100);
        }
        x.most(zone, cls, 99);
        for (int box = 0; box < 9; box++) {
            for (int into = 0; into < 4; into++) {
                int due = box + 1 == cls && into == zone ? 48 + cls : 0;
                CHECK.is("put", x.put(into, box, 0, 0), due);
                x.take(box);
            }
        }
        x.most(zone, cls, 100);
        CHECK.is("just enough", x.put(zone, cls - 1, 0, 0), 0);
    }

    private static void mostAtFirst() {
        DangerTables x = harmless();
        int good = Check.plain(x, 4);
        for (int i = 0; i < 3; i++) {
            Check.boxWithPapers(x, good, 30000);
            CHECK.is("put", x.put(2, i, i, 0), 0);
        }
        Check.boxWithPapers(x, good, 10001);
        Check.boxWithPapers(x, good, 10000);
        CHECK.is("above 100000", x.put(2, 3, 5, 5), 52);
        CHECK.is("up to 100000", x.put(2, 4, 5, 5), 0);
        CHECK.is("sum", x.zone(2, 4), 100000);
        CHECK.is("another zone", x.put(1, 3, 5, 5), 0);
    }

    private static void loweredMost() {
        DangerTables x = harmless();
        Check.boxWithPapers(x, x.good(2, 3, 2, 0, false, false), 500);
        Check.boxWithPapers(x, Check.plain(x, 4), 1);
        Check.boxWithPapers(x, Check.plain(x, 3), 1);
        CHECK.is("put", x.put(0, 0, 0, 0), 0);
        x.most(0, 2, 0);
        x.most(0, 3, 10);
        CHECK.is("it stays there", x.zone(0, 2), 500);
        CHECK.is("a box without that class", x.put(0, 1, 1, 0), 0);
        CHECK.is("a box with that class", x.put(0, 2, 2, 0), 51);
    }

    private static void sums() {
        DangerTables x = harmless();
        int first = x.good(1, 2, 2, 0, false, false);
        int second = x.good(2, 0, 2, 1000, false, false);
        int third = x.good(3, 1, 2, 0, false, false);
        x.box(first, 100);
        x.also(0, second, 20);
        x.also(0, third, 3);
        x.box(second, 4000);
        x.box(first, 25000);
        for (int box = 0; box < 3; box++) {
            Check.allPapers(x, box);
        }
        CHECK.is("nothing lies", x.zone(0, 1), 0);
        x.put(0, 0, 0, 0);
        x.put(0, 1, 1, 1);
        x.put(3, 2, 0, 0);
        CHECK.is("class 1", x.zone(0, 1), 103);
        CHECK.is("class 2", x.zone(0, 2), 4120);
        CHECK.is("class 3", x.zone(0, 3), 3);
        CHECK.is("class 4", x.zone(0, 4), 0);
        CHECK.is("another zone", x.zone(3, 2), 25000);
        CHECK.is("an empty zone", x.zone(1, 1), 0);
        x.take(0);
        CHECK.is("taken away", x.zone(0, 1), 0);
        CHECK.is("what stays", x.zone(0, 2), 4000);
        for (int none : new int[] {-1, 4, Integer.MIN_VALUE, Integer.MAX_VALUE}) {
            CHECK.illegal("no zone", () -> x.zone(none, 1));
        }
        for (int none : new int[] {-1, 0, 10, Integer.MIN_VALUE, Integer.MAX_VALUE}) {
            CHECK.illegal("no class", () -> x.zone(0, none));
        }
    }

    private static void wrongPlaces() {
        DangerTables x = harmless();
        int good = Check.plain(x, 1);
        CHECK.illegal("no box", () -> x.put(0, 0, 0, 0));
        Check.boxWithPapers(x, good, 1);
        for (int none : new int[] {-1, 4, Integer.MIN_VALUE, Integer.MAX_VALUE}) {
            CHECK.illegal("zone " + none, () -> x.put(none, 0, 0, 0));
        }
        for (int none : new int[] {-1, 1, Integer.MIN_VALUE, Integer.MAX_VALUE}) {
            CHECK.illegal("box " + none, () -> x.put(0, none, 0, 0));
        }
        for (int none : new int[] {-1, 20, Integer.MIN_VALUE, Integer.MAX_VALUE}) {
            CHECK.illegal("x " + none, () -> x.put(0, 0, none, 0));
            CHECK.illegal("y " + none, () -> x.put(0, 0, 0, none));
        }
        CHECK.is("the last slot of the last zone", x.put(3, 0, 19, 19), 0);
        CHECK.badState("it lies", () -> x.put(0, 0, 0, 0));
        CHECK.badState("it lies there", () -> x.put(3, 0, 19, 19));
        CHECK.illegal("it lies, and no zone", () -> x.put(4, 0, 0, 0));
        CHECK.illegal("it lies, and no slot", () -> x.put(0, 0, 0, 20));
    }

    private static void papersBarFirst() {
        DangerTables x = new DangerTables();
        int good = x.good(1, 0, 1, 0, true, true);
        Check.boxWithPapers(x, good, 1);
        x.put(0, 0, 3, 3);
        x.box(good, 1);
        x.most(0, 1, 0);
        for (int field = 0; field < 5; field++) {
            CHECK.is("without field " + field, x.put(0, 1, 3, 3), 16);
            CHECK.is("it lies nowhere", x.look(1, 1), -1);
            x.paper(1, field);
        }
        CHECK.is("whole papers", x.put(0, 1, 3, 3), 32);
    }

    private static void slotBarsSecond() {
        DangerTables x = harmless();
        int good = Check.plain(x, 5);
        Check.boxWithPapers(x, good, 10);
        Check.boxWithPapers(x, good, 10);
        x.put(1, 0, 3, 4);
        x.most(1, 5, 0);
        CHECK.is("taken", x.put(1, 1, 3, 4), 32);
        x.most(1, 5, 20);
        CHECK.is("taken", x.put(1, 1, 3, 4), 32);
        CHECK.is("turned", x.put(1, 1, 4, 3), 0);
        x.take(1);
        CHECK.is("the same x", x.put(1, 1, 3, 5), 0);
        x.take(1);
        CHECK.is("the same y", x.put(1, 1, 2, 4), 0);
        x.take(1);
        CHECK.is("the same slot of another zone", x.put(2, 1, 3, 4), 0);
        x.take(1);
        x.take(0);
        CHECK.is("free again", x.put(1, 1, 3, 4), 0);
    }

    private static void mostBarsThird() {
        DangerTables x = new DangerTables();
        int sided = x.good(7, 3, 2, 0, false, false);
        int plain = Check.plain(x, 5);
        Check.boxWithPapers(x, sided, 60);
        x.put(0, 0, 0, 0);
        x.box(sided, 41);
        x.also(1, plain, 10);
        Check.allPapers(x, 1);
        x.most(0, 1, 0);
        x.most(0, 7, 100);
        CHECK.is("the class", x.put(0, 1, 9, 9), 48 + 7);
        x.most(0, 5, 9);
        CHECK.is("the least of two", x.put(0, 1, 9, 9), 48 + 5);
        x.most(0, 3, 100);
        CHECK.is("a side class", x.put(0, 1, 9, 9), 48 + 3);
        x.most(0, 3, 101);
        x.most(0, 5, 10);
        x.most(0, 7, 101);
        CHECK.is("none: the distance bars", x.put(0, 1, 9, 9), 64);
        CHECK.is("it lies nowhere", x.look(1, 1), -1);
        CHECK.is("nothing came to the zone", x.zone(0, 7), 60);
    }

    private static void distances() {
        for (int rule = 0; rule <= 4; rule++) {
            for (int slotX = 0; slotX < 20; slotX++) {
                distances(rule, slotX);
            }
        }
    }

    private static void distances(int rule, int slotX) {
        int[] least = {0, 3, 6, 12, 1000};
        DangerTables x = Check.withRules((a, b) -> rule);
        Check.boxWithPapers(x, Check.plain(x, 1), 1);
        Check.boxWithPapers(x, Check.plain(x, 2), 1);
        x.put(0, 0, 9, 7);
        for (int slotY = 0; slotY < 20; slotY++) {
            int distance = Math.abs(slotX - 9) + Math.abs(slotY - 7);
            int bar = distance == 0 ? 32 : distance < least[rule] ? 64 : 0;
            CHECK.is("rule " + rule + " at " + slotX + " " + slotY, x.put(0, 1, slotX, slotY), bar);
            CHECK.is("it lies", x.look(1, 1), bar == 0 ? 0 : -1);
            x.take(1);
        }
        CHECK.is("another zone", x.put(1, 1, 9, 7), 0);
    }

    private static void leastBoxBars() {
        DangerTables x = Check.withRules((a, b) -> a == 1 && b == 2 ? 1 : a == 1 && b == 3 ? 3 : 0);
        int one = Check.plain(x, 1);
        int two = Check.plain(x, 2);
        int three = Check.plain(x, 3);
        for (int good : new int[] {one, two, three, two, one}) {
            Check.boxWithPapers(x, good, 1);
        }
        x.put(0, 4, 0, 0);
        CHECK.is("the only one", x.put(0, 2, 11, 0), 64 + 4);
        x.take(4);
        x.put(0, 3, 10, 10);
        x.put(0, 2, 10, 12);
        x.put(0, 1, 19, 19);
        CHECK.is("the least of two", x.put(0, 0, 10, 11), 64 + 2);
        CHECK.is("by the strict rule", x.put(0, 0, 10, 1), 64 + 2);
        x.take(2);
        CHECK.is("the other of two", x.put(0, 0, 10, 11), 64 + 3);
        CHECK.is("far enough", x.put(0, 0, 10, 13), 0);
        x.take(0);
        CHECK.is("the least of those near", x.put(0, 0, 18, 19), 64 + 1);
    }

    private static void limitedAndExemptInTheYard() {
        DangerTables x = new DangerTables();
        int few = x.good(1, 0, 2, 10, false, false);
        int other = Check.plain(x, 2);
        Check.boxWithPapers(x, few, 10);
        Check.boxWithPapers(x, other, 1);
        x.put(0, 0, 0, 0);
        CHECK.is("limited: AWAY", x.put(0, 1, 1, 1), 64);
        CHECK.is("limited: AWAY is kept", x.put(0, 1, 1, 2), 0);
        x.take(1);
        x.exempt(other, 1, 2);
        CHECK.is("exempt", x.put(0, 1, 1, 0), 0);
        x.take(0);
        x.also(0, x.good(3, 0, 2, 0, false, false), 1);
        CHECK.is("goods of one box are not looked at, others are", x.put(0, 0, 19, 19), 64 + 1);
        CHECK.is("alone in a zone", x.put(1, 0, 19, 19), 0);
    }

    private static void takes() {
        DangerTables x = harmless();
        int good = Check.plain(x, 6);
        CHECK.illegal("no box", () -> x.take(0));
        Check.boxWithPapers(x, good, 1);
        for (int none : new int[] {-1, 1, Integer.MIN_VALUE, Integer.MAX_VALUE}) {
            CHECK.illegal("box " + none, () -> x.take(none));
        }
        CHECK.is("it lies nowhere", x.take(0), -1);
        for (int zone = 0; zone < 4; zone++) {
            x.put(zone, 0, 2, 3);
            CHECK.is("its zone", x.take(0), zone);
            CHECK.is("again", x.take(0), -1);
            CHECK.is("zone", x.look(0, 1), -1);
            CHECK.is("x", x.look(0, 2), -1);
            CHECK.is("y", x.look(0, 3), -1);
            CHECK.is("its papers stay", x.look(0, 6), 31);
            CHECK.is("boxes that lie", x.count(3), 0);
        }
    }
}
