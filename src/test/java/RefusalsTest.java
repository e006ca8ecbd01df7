import java.util.function.Consumer;

/**
 * "Of several exceptions the one told first is thrown. Reading uses up the text; what else throws or is
 * refused changes nothing." Every call that throws or is refused, in an empty, a usual and a full
 * object; and that calls which only tell change nothing either.
 */
public final class RefusalsTest {
    private static final String ILLEGAL = "IllegalArgumentException";
    private static final String BAD_STATE = "IllegalStateException";
    private static final String OUT_OF_BOUNDS = "IndexOutOfBoundsException";
    private static final String SIGNS = "0123456789;";
    private static final int[] NO_SIGNS = {Integer.MIN_VALUE, -1, 0, ' ', '/', ':', '<', 'A',
        '0' + 256, ';' + 256, '0' + 65536, ';' - 65536, Integer.MAX_VALUE};

    private static final Check CHECK = new Check();

    public static void main(String[] args) {
        Twins empty = new Twins(CHECK, "an empty object", x -> { });
        wrongNumbers(empty, 0, 0);
        tellingCallsOfAnEmptyObject(empty);
        Twins usual = new Twins(CHECK, "a usual object", RefusalsTest::buildUsual);
        wrongNumbers(usual, 5, 5);
        usualState(usual);
        barredPuts(usual);
        tellingCalls(usual);
        Twins fullOfGoods = new Twins(CHECK, "an object full of goods", RefusalsTest::buildGoods);
        wrongNumbers(fullOfGoods, 16, 0);
        roomForNoGood(fullOfGoods);
        Twins full = new Twins(CHECK, "a full object", RefusalsTest::buildFull);
        wrongNumbers(full, 16, 12);
        fullState(full);
        wrongTexts();
        CHECK.end();
    }

    /** In zone 0 lies box 0, in zone 2 box 2; in zone 1 the mosts are as narrow as they can be. */
    private static void buildUsual(DangerTables x) {
        buildUsualWithoutText(x);
        Check.sign(x, "110;1");
    }

    private static void buildUsualWithoutText(DangerTables x) {
        Check.read(x, Check.table(RefusalsTest::usualRule));
        x.good(1, 0, 1, 10, false, false);
        x.good(2, 3, 2, 0, true, false);
        x.good(3, 0, 3, 1000, false, true);
        x.good(9, 1, 2, 500, true, true);
        x.good(1, 9, 3, 0, false, false);
        x.exempt(0, 1, 2);
        x.exempt(1, 9, 3);
        x.exempt(3, 3, 3);
        x.box(0, 10);
        x.box(1, 200);
        x.also(1, 2, 1000);
        x.box(2, 1001);
        x.box(3, 500);
        x.box(4, 700);
        for (int box : new int[] {0, 1, 2, 4}) {
            Check.allPapers(x, box);
        }
        x.paper(3, 0);
        x.most(1, 1, 700);
        x.most(1, 2, 200);
        x.most(1, 3, 1199);
        x.most(3, 9, 699);
        x.put(0, 0, 0, 0);
        x.put(2, 2, 19, 19);
    }

    private static int usualRule(int a, int b) {
        return a == 1 && b == 2 ? 4 : a == 1 && b == 3 ? 3 : a == 2 ? 2 : a == b ? 0 : 1;
    }

    private static void buildGoods(DangerTables x) {
        for (int i = 0; i < 16; i++) {
            int cls = 1 + i % 9;
            x.good(cls, i < 8 ? 0 : cls % 9 + 1, 1 + i % 3, i * 66, i % 2 == 0, i % 4 == 0);
        }
    }

    /** Boxes 0 and 3 have four goods; boxes 0, 1 and 2 lie in zones 1, 3 and 0. */
    private static void buildFull(DangerTables x) {
        Check.sign(x, Check.table((a, b) -> 0) + "9".repeat(120));
        buildGoods(x);
        for (int i = 0; i < 12; i++) {
            x.box(i, 100 * (i + 1));
        }
        for (int good = 13; good < 16; good++) {
            x.also(0, good, 30000);
            x.also(3, good, 1);
        }
        for (int box = 0; box < 3; box++) {
            Check.allPapers(x, box);
        }
        x.put(1, 0, 0, 19);
        x.put(3, 1, 19, 19);
        x.put(0, 2, 0, 0);
    }

    /**
     * The calls differ from a call with right numbers by the wrong one alone. In a usual and a full
     * object, where box 0 lies and nothing more may come, IllegalArgumentException is told first.
     */
    private static void wrongNumbers(Twins twins, int goods, int boxes) {
        int[] noGood = Edges.outside(0, goods - 1);
        int[] noBox = Edges.outside(0, boxes - 1);
        wrongSigns(twins);
        wrongClasses(twins);
        wrongGoods(twins);
        wrongExemptions(twins, noGood);
        wrongBoxes(twins, noGood, noBox);
        wrongPairs(twins, noBox);
        wrongZones(twins);
        wrongPuts(twins, noBox);
        wrongPapers(twins, noBox);
        wrongQuestions(twins, noBox);
    }

    private static void wrongSigns(Twins twins) {
        for (int none : NO_SIGNS) {
            twins.unchanged("sign " + none, false, x -> x.sign(none));
        }
    }

    private static void wrongClasses(Twins twins) {
        for (int none : Edges.outside(1, 9)) {
            twins.unchanged("rule " + none + " 1", ILLEGAL, x -> x.rule(none, 1));
            twins.unchanged("rule 9 " + none, ILLEGAL, x -> x.rule(9, none));
            twins.unchanged("rule of no classes", ILLEGAL, x -> x.rule(none, none));
        }
    }

    private static void wrongGoods(Twins twins) {
        for (int none : Edges.outside(1, 9)) {
            twins.unchanged("good of class " + none, ILLEGAL, x -> x.good(none, 2, 1, 0, true, true));
        }
        for (int none : Edges.outside(0, 9)) {
            twins.unchanged("good with side " + none, ILLEGAL, x -> x.good(1, none, 1, 0, true, true));
        }
        for (int same = 1; same <= 9; same++) {
            int cls = same;
            twins.unchanged("good with side as class " + cls, ILLEGAL, x -> x.good(cls, cls, 1, 0, true, true));
        }
        for (int none : Edges.outside(1, 3)) {
            twins.unchanged("good of group " + none, ILLEGAL, x -> x.good(1, 0, none, 0, true, true));
        }
        for (int none : Edges.outside(0, 1000)) {
            twins.unchanged("good with limit " + none, ILLEGAL, x -> x.good(1, 0, 1, none, true, true));
        }
    }

    private static void wrongExemptions(Twins twins, int[] noGood) {
        for (int none : noGood) {
            twins.unchanged("exempt for " + none, false, x -> x.exempt(none, 5, 6));
        }
        for (int none : Edges.outside(1, 9)) {
            twins.unchanged("exempt " + none + " 5", false, x -> x.exempt(0, none, 5));
            twins.unchanged("exempt 5 " + none, false, x -> x.exempt(0, 5, none));
        }
    }

    private static void wrongBoxes(Twins twins, int[] noGood, int[] noBox) {
        for (int none : noGood) {
            twins.unchanged("box of good " + none, ILLEGAL, x -> x.box(none, 1));
            twins.unchanged("also good " + none, ILLEGAL, x -> x.also(0, none, 1));
        }
        for (int none : noBox) {
            twins.unchanged("also in box " + none, ILLEGAL, x -> x.also(none, 4, 1));
        }
        for (int none : Edges.outside(1, 30000)) {
            twins.unchanged("box of amount " + none, ILLEGAL, x -> x.box(0, none));
            twins.unchanged("also amount " + none, ILLEGAL, x -> x.also(0, 4, none));
        }
    }

    private static void wrongPairs(Twins twins, int[] noBox) {
        for (int none : noBox) {
            twins.unchanged("apart " + none + " 0", ILLEGAL, x -> x.apart(none, 0));
            twins.unchanged("apart 0 " + none, ILLEGAL, x -> x.apart(0, none));
            twins.unchanged("apart of none", ILLEGAL, x -> x.apart(none, none));
            twins.unchanged("ship " + none + " 0", ILLEGAL, x -> x.ship(none, 0, 1));
            twins.unchanged("ship 0 " + none, ILLEGAL, x -> x.ship(0, none, 1));
        }
        twins.unchanged("apart of one", ILLEGAL, x -> x.apart(0, 0));
        twins.unchanged("ship of one", ILLEGAL, x -> x.ship(0, 0, 1));
        for (int none : Edges.outside(0, 100)) {
            twins.unchanged("ship with cells " + none, ILLEGAL, x -> x.ship(0, 1, none));
            twins.unchanged("ship of one with cells " + none, ILLEGAL, x -> x.ship(1, 1, none));
        }
    }

    private static void wrongZones(Twins twins) {
        for (int none : Edges.outside(0, 3)) {
            twins.unchanged("most of zone " + none, false, x -> x.most(none, 1, 1));
            twins.unchanged("zone " + none, ILLEGAL, x -> x.zone(none, 1));
        }
        for (int none : Edges.outside(1, 9)) {
            twins.unchanged("most of class " + none, false, x -> x.most(1, none, 1));
            twins.unchanged("zone of class " + none, ILLEGAL, x -> x.zone(1, none));
        }
        for (int none : Edges.outside(0, 100000)) {
            twins.unchanged("most " + none, false, x -> x.most(1, 1, none));
            twins.unchanged("most " + none, false, x -> x.most(1, 3, none));
        }
    }

    private static void wrongPuts(Twins twins, int[] noBox) {
        for (int none : Edges.outside(0, 3)) {
            twins.unchanged("put into zone " + none, ILLEGAL, x -> x.put(none, 0, 9, 9));
        }
        for (int none : noBox) {
            twins.unchanged("put box " + none, ILLEGAL, x -> x.put(1, none, 9, 9));
            twins.unchanged("take " + none, ILLEGAL, x -> x.take(none));
        }
        for (int none : Edges.outside(0, 19)) {
            twins.unchanged("put at x " + none, ILLEGAL, x -> x.put(1, 0, none, 9));
            twins.unchanged("put at y " + none, ILLEGAL, x -> x.put(1, 0, 9, none));
        }
    }

    private static void wrongPapers(Twins twins, int[] noBox) {
        for (int none : noBox) {
            twins.unchanged("paper of box " + none, false, x -> x.paper(none, 1));
            twins.unchanged("missing of box " + none, ILLEGAL, x -> x.missing(none));
        }
        for (int none : Edges.outside(0, 4)) {
            twins.unchanged("paper " + none, false, x -> x.paper(3, none));
        }
        // A shift by 33 is one by 1.
        for (int none : new int[] {31, 32, 33, 36, -31, -32}) {
            twins.unchanged("paper " + none, false, x -> x.paper(3, none));
        }
    }

    private static void wrongQuestions(Twins twins, int[] noBox) {
        for (int none : noBox) {
            twins.unchanged("look at box " + none, OUT_OF_BOUNDS, x -> x.look(none, 0));
            twins.unchanged("look at box " + none, OUT_OF_BOUNDS, x -> x.look(none, 6));
        }
        for (int none : Edges.outside(0, 6)) {
            twins.unchanged("look for " + none, OUT_OF_BOUNDS, x -> x.look(0, none));
        }
        for (int none : Edges.outside(0, 4)) {
            twins.unchanged("count " + none, -1, x -> x.count(none));
        }
    }

    private static void usualState(Twins twins) {
        twins.unchanged("exempt already", false, x -> x.exempt(0, 1, 2));
        twins.unchanged("exempt already, turned", false, x -> x.exempt(0, 2, 1));
        twins.unchanged("exempt already, turned", false, x -> x.exempt(1, 3, 9));
        twins.unchanged("exempt already, one class", false, x -> x.exempt(3, 3, 3));
        twins.unchanged("also where it lies", BAD_STATE, x -> x.also(0, 4, 1));
        twins.unchanged("also what it has, where it lies", ILLEGAL, x -> x.also(0, 0, 1));
        twins.unchanged("also its first", ILLEGAL, x -> x.also(1, 1, 1));
        twins.unchanged("also its second", ILLEGAL, x -> x.also(1, 2, 30000));
        twins.unchanged("put where it lies", BAD_STATE, x -> x.put(0, 0, 0, 0));
        twins.unchanged("put beside", BAD_STATE, x -> x.put(0, 0, 19, 19));
        twins.unchanged("put into another zone", BAD_STATE, x -> x.put(1, 2, 19, 19));
        twins.unchanged("take what lies nowhere", -1, x -> x.take(1));
        twins.unchanged("take what lies nowhere", -1, x -> x.take(4));
        twins.unchanged("paper again", false, x -> x.paper(0, 4));
        twins.unchanged("paper again", false, x -> x.paper(3, 0));
    }

    private static void barredPuts(Twins twins) {
        twins.unchanged("papers bar", 16, x -> x.put(3, 3, 9, 9));
        twins.unchanged("papers bar ahead of the slot", 16, x -> x.put(0, 3, 0, 0));
        twins.unchanged("the slot bars", 32, x -> x.put(0, 4, 0, 0));
        twins.unchanged("the slot bars", 32, x -> x.put(2, 1, 19, 19));
        twins.unchanged("a most bars", 48 + 3, x -> x.put(1, 1, 9, 9));
        twins.unchanged("a most bars", 48 + 9, x -> x.put(3, 4, 9, 9));
        twins.unchanged("a box bars", 64, x -> x.put(0, 1, 1, 1));
        twins.unchanged("a box bars", 64 + 2, x -> x.put(2, 4, 19, 10));
    }

    private static void tellingCallsOfAnEmptyObject(Twins twins) {
        twins.unchanged("read", -1, DangerTables::read);
        twins.unchanged("rule", 4, x -> x.rule(9, 1));
        twins.unchanged("zone", 0, x -> x.zone(3, 9));
        for (int what = 0; what < 5; what++) {
            int which = what;
            twins.unchanged("count " + what, 0, x -> x.count(which));
        }
    }

    private static void tellingCalls(Twins twins) {
        twins.unchanged("rule", 4, x -> x.rule(2, 1));
        twins.unchanged("apart", 1, x -> x.apart(0, 1));
        twins.unchanged("too few cells", false, x -> x.ship(1, 0, 0));
        twins.unchanged("enough cells", true, x -> x.ship(1, 0, 1));
        twins.unchanged("zone", 10, x -> x.zone(0, 1));
        twins.unchanged("missing", 4 + 8, x -> x.missing(3));
        int[] looks = {1, 2, 19, 19, 1001, 0, 31};
        for (int what = 0; what < looks.length; what++) {
            int which = what;
            twins.unchanged("look " + what, looks[what], x -> x.look(2, which));
        }
        int[] counts = {5, 5, 5, 2, 1};
        for (int what = 0; what < counts.length; what++) {
            int which = what;
            twins.unchanged("count " + what, counts[what], x -> x.count(which));
        }
    }

    private static void fullState(Twins twins) {
        for (char sign : SIGNS.toCharArray()) {
            twins.unchanged("sign 301", false, x -> x.sign(sign));
        }
        roomForNoGood(twins);
        twins.unchanged("a 13th box", BAD_STATE, x -> x.box(0, 1));
        twins.unchanged("a 13th box", BAD_STATE, x -> x.box(15, 30000));
        twins.unchanged("a fifth good", BAD_STATE, x -> x.also(3, 5, 1));
        twins.unchanged("a fifth good that it has", ILLEGAL, x -> x.also(3, 15, 1));
        twins.unchanged("a fifth good that is none", ILLEGAL, x -> x.also(3, 16, 1));
        twins.unchanged("a fifth good of no amount", ILLEGAL, x -> x.also(3, 5, 0));
        twins.unchanged("a fifth good where it lies", BAD_STATE, x -> x.also(0, 5, 1));
        twins.unchanged("one more good where it lies", BAD_STATE, x -> x.also(1, 5, 1));
        twins.unchanged("put where it lies", BAD_STATE, x -> x.put(1, 0, 0, 19));
        twins.unchanged("papers bar", 16, x -> x.put(2, 3, 0, 0));
        twins.unchanged("paper again", false, x -> x.paper(2, 4));
        twins.unchanged("take what lies nowhere", -1, x -> x.take(11));
    }

    private static void roomForNoGood(Twins twins) {
        twins.unchanged("a 17th good", BAD_STATE, x -> x.good(1, 0, 1, 0, true, true));
        twins.unchanged("a 17th good", BAD_STATE, x -> x.good(9, 8, 3, 1000, false, false));
    }

    /** A wrong text is used up; but for that the object is as if it had never been told. */
    private static void wrongTexts() {
        Twins usual = new Twins(CHECK, "a usual object without a text", RefusalsTest::buildUsualWithoutText);
        String right = Check.table((a, b) -> 2);
        for (String text : new String[] {"", "0", ";", "1", "11", "110", "110;", "110;11", "1100"}) {
            usual.sameAs("reading " + text, reading(text));
        }
        Twins empty = new Twins(CHECK, "an empty object", x -> { });
        for (String text : new String[] {right.substring(0, 179), right.substring(0, 176), right + "1",
            right.substring(0, 179) + "4", right.substring(4), right.substring(4) + "120;"}) {
            empty.sameAs("reading " + text, x -> Check.read(x, text));
        }
    }

    private static Consumer<DangerTables> reading(String text) {
        return x -> {
            buildUsualWithoutText(x);
            Check.read(x, text);
        };
    }
}
