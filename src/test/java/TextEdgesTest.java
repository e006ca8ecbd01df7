/** The sentences with boundary cases of promises 1 to 4, and of the terms that they rest on. */
public final class TextEdgesTest {
    private static final String SIGNS = "0123456789;";
    private static final String TABLE = Check.table((a, b) -> 2);
    private static final Check CHECK = new Check();

    public static void main(String[] args) {
        noGoods();
        noBoxes();
        allRulesAreFour();
        noSignIsTaken();
        allSignsAreTaken();
        threeHundredSigns();
        refusedSignsTakeNoRoom();
        signOfTheTextAtEachPlace();
        ruleOfEachRow();
        eachPairInEitherOrder();
        pairThatStoodThere();
        pairThatStoodThereAtTheEnd();
        rowCutOff();
        rowCutOffBehindAWholeText();
        pairMissingAtTheEnd();
        moreThanAllPairs();
        firstOfSeveralWrongPlaces();
        wrongTextChangesNoTable();
        aheadOfTheFirstRightText();
        readingUsesUpTheText();
        rightTextAfterAWrongOne();
        classesOfRule();
        lastCall();
        CHECK.end();
    }

    private static DangerTables told(String text) {
        DangerTables x = new DangerTables();
        Check.sign(x, text);
        return x;
    }

    private static void wrongAt(String text, int place) {
        CHECK.is("reading " + text, told(text).read(), -1 - place);
    }

    /** Promise 1: "No goods". */
    private static void noGoods() {
        DangerTables x = new DangerTables();
        CHECK.is("goods", x.count(1), 0);
        CHECK.illegal("a box of good 0", () -> x.box(0, 1));
        CHECK.denies("exempt for good 0", () -> x.exempt(0, 1, 2));
        CHECK.is("the first good", Check.plain(x, 1), 0);
    }

    /** Promise 1: "No .. boxes". */
    private static void noBoxes() {
        DangerTables x = new DangerTables();
        Check.plain(x, 1);
        CHECK.is("boxes", x.count(2), 0);
        CHECK.is("boxes that lie", x.count(3), 0);
        CHECK.illegal("also", () -> x.also(0, 0, 1));
        CHECK.illegal("apart", () -> x.apart(0, 1));
        CHECK.illegal("ship", () -> x.ship(0, 1, 1));
        CHECK.illegal("put", () -> x.put(0, 0, 0, 0));
        CHECK.illegal("take", () -> x.take(0));
        CHECK.denies("paper", () -> x.paper(0, 0));
        CHECK.illegal("missing", () -> x.missing(0));
        CHECK.outOfBounds("look", () -> x.look(0, 0));
        CHECK.is("the first box", x.box(0, 1), 0);
    }

    /** Promise 1: "all rules 4"; of no two objects is the table one. */
    private static void allRulesAreFour() {
        Check.withRules((a, b) -> 0);
        DangerTables x = new DangerTables();
        rulesAre(x, 4);
        CHECK.is("a table was read", x.count(4), 0);
        CHECK.is("signs", x.count(0), 0);
        CHECK.is("read", x.read(), -1);
    }

    private static void rulesAre(DangerTables x, int due) {
        for (int a = 1; a <= 9; a++) {
            for (int b = 1; b <= 9; b++) {
                CHECK.is("rule " + a + " " + b, x.rule(a, b), due);
            }
        }
    }

    /** Promise 2: "false if it is no digit and no ;". */
    private static void noSignIsTaken() {
        for (int none : new int[] {Integer.MIN_VALUE, Integer.MIN_VALUE + '0', -'0', -1, 0, 1, 9, 10, '0' - 1,
            '9' + 1, ';' + 1, '0' + 128, '9' + 256, ';' + 256, '0' + 65536, ';' + 65536, '0' - 65536,
            Integer.MAX_VALUE}) {
            DangerTables x = told("11");
            CHECK.denies("sign " + none, () -> x.sign(none));
            CHECK.is("signs after " + none, x.count(0), 2);
            CHECK.is("reading after " + none, x.read(), -3);
        }
    }

    /** Promise 2: "A sign comes to the text: true", be it right there or not. */
    private static void allSignsAreTaken() {
        DangerTables x = new DangerTables();
        for (int i = 0; i < SIGNS.length(); i++) {
            CHECK.is("sign " + SIGNS.charAt(i), x.sign(SIGNS.charAt(i)), true);
            CHECK.is("signs", x.count(0), i + 1);
        }
    }

    /** Terms: "THE TEXT (300 signs at most)"; promise 2: "or there are 300". */
    private static void threeHundredSigns() {
        for (int i = 0; i < SIGNS.length(); i++) {
            char sign = SIGNS.charAt(i);
            DangerTables x = told("1".repeat(299));
            CHECK.is("sign 300 " + sign, x.sign(sign), true);
            CHECK.is("signs", x.count(0), 300);
            CHECK.denies("sign 301 " + sign, () -> x.sign(sign));
            CHECK.denies("again", () -> x.sign(sign));
            CHECK.denies("no sign at all", () -> x.sign('x'));
            CHECK.is("signs", x.count(0), 300);
            CHECK.is("reading 300", x.read(), -4);
            CHECK.is("signs after reading", x.count(0), 0);
            CHECK.is("room again", x.sign(sign), true);
            CHECK.is("signs", x.count(0), 1);
        }
        DangerTables x = told(TABLE + "1".repeat(120));
        CHECK.is("a right table and more", x.read(), -1 - 181);
        CHECK.is("a right table alone", Check.read(x, TABLE), 45);
    }

    /** Terms: "what else throws or is refused changes nothing". */
    private static void refusedSignsTakeNoRoom() {
        DangerTables x = new DangerTables();
        for (int i = 0; i < 180; i++) {
            CHECK.denies("no sign", () -> x.sign('/'));
            CHECK.is("a sign", x.sign(TABLE.charAt(i)), true);
        }
        CHECK.is("signs", x.count(0), 180);
        CHECK.is("read", x.read(), 45);
    }

    /** Terms: "each: two digits of classes (1 .. 9), a digit of the rule (0 .. 4), ;". */
    private static void signOfTheTextAtEachPlace() {
        String[] wrong = {"0;", "0;", "56789;", "0123456789"};
        for (int place = 0; place < 180; place++) {
            for (char sign : wrong[place % 4].toCharArray()) {
                wrongAt(TABLE.substring(0, place) + sign + TABLE.substring(place + 1), place);
                wrongAt(TABLE.substring(0, place) + sign, place);
            }
        }
    }

    /** Terms: "a digit of the rule (0 .. 4)": each in each row. */
    private static void ruleOfEachRow() {
        for (int row = 0; row < 45; row++) {
            for (int rule = 0; rule <= 4; rule++) {
                String text = TABLE.substring(0, row * 4 + 2) + rule + TABLE.substring(row * 4 + 3);
                DangerTables x = told(text);
                CHECK.is("reading " + text, x.read(), 45);
                int a = text.charAt(row * 4) - '0';
                int b = text.charAt(row * 4 + 1) - '0';
                CHECK.is("rule " + a + b, x.rule(a, b), rule);
                CHECK.is("rule " + b + a, x.rule(b, a), rule);
                CHECK.is("another rule", x.rule(a == 5 ? 6 : 5, b == 7 ? 8 : 7), 2);
            }
        }
    }

    /** Terms: "Each pair of classes (45; in either order)": all turned, and the last row first. */
    private static void eachPairInEitherOrder() {
        StringBuilder rows = new StringBuilder();
        for (int a = 9; a >= 1; a--) {
            for (int b = 9; b >= a; b--) {
                rows.append(b).append(a).append((a + b) % 5).append(';');
            }
        }
        DangerTables x = told(rows.toString());
        CHECK.is("read", x.read(), 45);
        for (int a = 1; a <= 9; a++) {
            for (int b = 1; b <= 9; b++) {
                CHECK.is("rule " + a + b, x.rule(a, b), (a + b) % 5);
            }
        }
    }

    /** Terms: "has to stand there once .. (of a pair that stood there already its second digit)". */
    private static void pairThatStoodThere() {
        for (int a = 1; a <= 9; a++) {
            for (int b = 1; b <= 9; b++) {
                String row = "" + a + b + "3;";
                wrongAt(row + a + b + "3;", 5);
                wrongAt(row + b + a + "0;", 5);
                wrongAt(row + b + a, 5);
                wrongAt(row + a, 5);
                wrongAt(row + a + "0", 5);
                wrongAt(row + (a == 9 ? "88" : "99") + "4;" + b + a + "9", 9);
            }
        }
    }

    /** The same in the last row, where one other pair is still missing. */
    private static void pairThatStoodThereAtTheEnd() {
        for (int row = 0; row < 44; row++) {
            char a = TABLE.charAt(row * 4);
            char b = TABLE.charAt(row * 4 + 1);
            wrongAt(TABLE.substring(0, 176) + a + b + "2;", 177);
            wrongAt(TABLE.substring(0, 176) + b + a + "2;", 177);
        }
    }

    /** Terms: "or the length (a row cut off .." at each length. */
    private static void rowCutOff() {
        for (int length = 0; length < 180; length++) {
            wrongAt(TABLE.substring(0, length), length);
        }
        CHECK.is("not cut off", told(TABLE).read(), 45);
    }

    /** The same behind a whole text: what was read stands in for nothing that is cut off. */
    private static void rowCutOffBehindAWholeText() {
        for (int length = 0; length < 180; length++) {
            DangerTables x = told(TABLE);
            CHECK.is("a whole text", x.read(), 45);
            CHECK.is("the first " + length, Check.read(x, TABLE.substring(0, length)), -1 - length);
        }
    }

    /** Terms: ".. a pair missing at the end)": each of them. */
    private static void pairMissingAtTheEnd() {
        for (int row = 0; row < 45; row++) {
            wrongAt(TABLE.substring(0, row * 4) + TABLE.substring(row * 4 + 4), 176);
        }
    }

    /** Each pair "once": behind 45 rows each pair stood there already. */
    private static void moreThanAllPairs() {
        for (int a = 1; a <= 9; a++) {
            for (int b = 1; b <= 9; b++) {
                wrongAt(TABLE + a + b, 181);
                wrongAt(TABLE + a + b + "0;", 181);
            }
            wrongAt(TABLE + a, 181);
            wrongAt(TABLE + a + "0", 181);
            wrongAt(TABLE + a + ";", 181);
        }
        wrongAt(TABLE + "0", 180);
        wrongAt(TABLE + ";", 180);
    }

    /** Terms: "THE FIRST WRONG PLACE: the first sign that can't stand where it does". */
    private static void firstOfSeveralWrongPlaces() {
        wrongAt("0000", 0);
        wrongAt(";;;;", 0);
        wrongAt("1000", 1);
        wrongAt("1199", 2);
        wrongAt("1111;110;", 3);
        wrongAt("110;119;0", 5);
        wrongAt("110;125;110;", 6);
        wrongAt("110;1200", 7);
        wrongAt("110;0", 4);
        wrongAt(TABLE.substring(0, 100) + "0" + TABLE.substring(101, 150), 100);
    }

    /** Terms: "A text that is wrong changes no table": wrong at each place, and cut off at each. */
    private static void wrongTextChangesNoTable() {
        String other = Check.table((a, b) -> 1);
        for (int place = 0; place < 180; place++) {
            String wrong = place % 4 == 2 ? "9" : place % 4 == 3 ? "1" : "0";
            keepsTable(other.substring(0, place) + wrong + other.substring(place + 1), place);
            keepsTable(other.substring(0, place), place);
        }
        keepsTable(other + "1", 181);
        keepsTable(other + "110;", 181);
        keepsTable(other + ";", 180);
    }

    private static void keepsTable(String wrong, int place) {
        DangerTables x = Check.withRules((a, b) -> 3);
        CHECK.is("reading " + wrong, Check.read(x, wrong), -1 - place);
        rulesAre(x, 3);
        CHECK.is("a table was read", x.count(4), 1);
    }

    /** Terms: "ahead of the first right one all rules are 4". */
    private static void aheadOfTheFirstRightText() {
        for (int length = 0; length < 180; length++) {
            DangerTables x = told(TABLE.substring(0, length));
            x.read();
            rulesAre(x, 4);
            CHECK.is("a table was read", x.count(4), 0);
        }
        DangerTables x = told(TABLE);
        rulesAre(x, 4);
        CHECK.is("told, not read", x.count(4), 0);
        x.read();
        rulesAre(x, 2);
        CHECK.is("read", x.count(4), 1);
    }

    /** Terms: "Reading uses up the text", be it right, wrong or empty. */
    private static void readingUsesUpTheText() {
        for (String text : new String[] {"", "1", "0", "110;", TABLE, TABLE + "1", TABLE.substring(0, 179)}) {
            DangerTables x = told(text);
            x.read();
            CHECK.is("signs", x.count(0), 0);
            CHECK.is("reading nothing", x.read(), -1);
            CHECK.is("reading one sign", Check.read(x, "1"), -2);
            CHECK.is("signs", x.count(0), 0);
            CHECK.is("reading a wrong sign", Check.read(x, ";"), -1);
            CHECK.is("a right table", Check.read(x, TABLE), 45);
        }
        DangerTables x = told(TABLE.substring(0, 100));
        x.read();
        CHECK.is("the other half is no table", Check.read(x, TABLE.substring(100)), -1 - 80);
    }

    /** Promise 3: "READ: 45"; pairs of an earlier text don't stand in a later one. */
    private static void rightTextAfterAWrongOne() {
        DangerTables x = told(TABLE.substring(0, 176));
        CHECK.is("all but one row", x.read(), -177);
        CHECK.is("that row alone", Check.read(x, TABLE.substring(176)), -5);
        CHECK.is("its rule", x.rule(9, 9), 4);
        CHECK.is("a whole table", Check.read(x, TABLE), 45);
        rulesAre(x, 2);
        DangerTables y = told(TABLE);
        CHECK.is("a table", y.read(), 45);
        CHECK.is("another", Check.read(y, Check.table((a, b) -> 0)), 45);
        rulesAre(y, 0);
    }

    /** Terms: "CLASSES 1 .. 9"; promise 4: "IllegalArgumentException if one is none". */
    private static void classesOfRule() {
        DangerTables x = Check.withRules((a, b) -> (a + b) % 5);
        for (int a : Edges.ends(1, 9)) {
            for (int b : Edges.ends(1, 9)) {
                CHECK.is("rule " + a + " " + b, x.rule(a, b), (a + b) % 5);
            }
            for (int none : Edges.outside(1, 9)) {
                CHECK.illegal("rule " + a + " " + none, () -> x.rule(a, none));
                CHECK.illegal("rule " + none + " " + a, () -> x.rule(none, a));
                CHECK.illegal("rule " + none + " " + none, () -> x.rule(none, none));
            }
        }
    }

    /** "An object is used for at most 512 calls": the last of them is answered like the first. */
    private static void lastCall() {
        DangerTables x = new DangerTables();
        for (int call = 1; call <= 331; call++) {
            CHECK.is("call " + call, x.read(), -1);
        }
        Check.sign(x, TABLE);
        CHECK.is("call 512", x.read(), 45);
        DangerTables y = new DangerTables();
        for (int call = 1; call <= 511; call++) {
            CHECK.is("call " + call, y.sign('1'), call <= 300);
        }
        CHECK.is("call 512", y.count(0), 300);
    }
}
