/** Promises 1 to 4: a new object, sign, read, rule. */
public final class TextTest {
    private static final Check CHECK = new Check();

    public static void main(String[] args) {
        newObject();
        signs();
        mostSigns();
        rightTable();
        eitherOrder();
        wrongPlaces();
        wrongAtTheEnd();
        wrongTextKeepsTable();
        secondTable();
        shortTextAfterALongOne();
        wrongClasses();
        CHECK.end();
    }

    private static void newObject() {
        DangerTables x = new DangerTables();
        for (int what = 0; what < 5; what++) {
            CHECK.is("new count " + what, x.count(what), 0);
        }
        for (int a = 1; a <= 9; a++) {
            for (int b = 1; b <= 9; b++) {
                CHECK.is("new rule", x.rule(a, b), 4);
            }
            for (int zone = 0; zone < 4; zone++) {
                CHECK.is("new zone", x.zone(zone, a), 0);
            }
        }
        CHECK.illegal("no box", () -> x.missing(0));
        CHECK.illegal("no good", () -> x.box(0, 1));
    }

    private static void signs() {
        for (int c = -300; c <= 70000; c++) {
            oneSign(c);
        }
        for (int c : new int[] {Integer.MIN_VALUE, Integer.MAX_VALUE, '0' + (1 << 20), ';' - (1 << 16)}) {
            oneSign(c);
        }
    }

    private static void oneSign(int c) {
        DangerTables x = new DangerTables();
        boolean due = "0123456789;".indexOf(c) >= 0;
        CHECK.is("sign " + c, x.sign(c), due);
        CHECK.is("signs after " + c, x.count(0), due ? 1 : 0);
    }

    private static void mostSigns() {
        DangerTables x = new DangerTables();
        String table = Check.table((a, b) -> 2);
        Check.sign(x, table);
        for (int i = 180; i < 300; i++) {
            CHECK.is("sign " + i, x.sign('1'), true);
        }
        CHECK.denies("sign 300", () -> x.sign('1'));
        CHECK.denies("sign 300", () -> x.sign(';'));
        CHECK.is("signs", x.count(0), 300);
        CHECK.is("read 300", x.read(), -1 - 181);
        CHECK.is("signs", x.count(0), 0);
        CHECK.is("sign after read", x.sign('1'), true);
        CHECK.is("signs", x.count(0), 1);
    }

    private static void rightTable() {
        DangerTables x = new DangerTables();
        CHECK.is("read", Check.read(x, Check.table((a, b) -> (a * 3 + b) % 5)), 45);
        CHECK.is("signs", x.count(0), 0);
        CHECK.is("a table was read", x.count(4), 1);
        for (int a = 1; a <= 9; a++) {
            for (int b = a; b <= 9; b++) {
                CHECK.is("rule " + a + b, x.rule(a, b), (a * 3 + b) % 5);
                CHECK.is("rule " + b + a, x.rule(b, a), (a * 3 + b) % 5);
            }
        }
    }

    private static void eitherOrder() {
        StringBuilder rows = new StringBuilder();
        for (int b = 9; b >= 1; b--) {
            for (int a = 1; a <= b; a++) {
                boolean turned = (a + b) % 2 == 0;
                rows.append(turned ? b : a).append(turned ? a : b).append((a * b) % 5).append(';');
            }
        }
        DangerTables x = new DangerTables();
        CHECK.is("read in another order", Check.read(x, rows.toString()), 45);
        for (int a = 1; a <= 9; a++) {
            for (int b = 1; b <= 9; b++) {
                CHECK.is("rule " + a + b, x.rule(a, b), (a * b) % 5);
            }
        }
    }

    private static void wrong(String text, int place) {
        DangerTables x = new DangerTables();
        CHECK.is("read " + text, Check.read(x, text), -1 - place);
        CHECK.is("signs after " + text, x.count(0), 0);
        CHECK.is("table after " + text, x.count(4), 0);
        CHECK.is("rule after " + text, x.rule(1, 1), 4);
        CHECK.is("read again after " + text, x.read(), -1);
    }

    private static void wrongPlaces() {
        wrong("0", 0);
        wrong(";", 0);
        wrong("10", 1);
        wrong("1;", 1);
        wrong("0;9;", 0);
        wrong("115", 2);
        wrong("119;", 2);
        wrong("11;", 2);
        wrong("1100", 3);
        wrong("1109", 3);
        wrong("110;;", 4);
        wrong("110;0", 4);
        wrong("110;110;", 5);
        wrong("110;115;", 5);
        wrong("120;210;", 5);
        wrong("120;21", 5);
        wrong("210;12", 5);
        wrong("994;121;995;", 9);
        wrong("991;980;9;", 9);
    }

    private static void wrongAtTheEnd() {
        String table = Check.table((a, b) -> 1);
        wrong("", 0);
        wrong("1", 1);
        wrong("11", 2);
        wrong("110", 3);
        wrong("110;", 4);
        wrong("110;1", 5);
        wrong(table.substring(0, 176), 176);
        wrong(table.substring(0, 177), 177);
        wrong(table.substring(0, 179), 179);
        wrong(table.substring(4), 176);
        wrong(table + "1", 181);
        wrong(table + "11", 181);
        wrong(table + "990;", 181);
        wrong(table + "0", 180);
        wrong(table + ";", 180);
        wrong(table.substring(0, 179) + "1", 179);
        wrong(table.substring(0, 178) + "5;", 178);
        wrong(table.substring(0, 176) + "110;", 177);
    }

    private static void wrongTextKeepsTable() {
        String cutOff = Check.table((a, b) -> 1).substring(0, 176);
        String wrongAtTheLast = Check.table((a, b) -> a == 9 ? 5 : 1);
        for (String text : new String[] {cutOff, wrongAtTheLast, "", "110;", "0"}) {
            keepsTable(text);
        }
        DangerTables fresh = new DangerTables();
        CHECK.is("cut off", Check.read(fresh, Check.table((a, b) -> 0).substring(0, 179)), -180);
        for (int a = 1; a <= 9; a++) {
            CHECK.is("rule after a wrong text", fresh.rule(a, 1), 4);
        }
        CHECK.is("no table was read", fresh.count(4), 0);
    }

    private static void keepsTable(String wrongText) {
        DangerTables x = Check.withRules((a, b) -> 3);
        CHECK.is("a wrong text", Check.read(x, wrongText) < 0, true);
        for (int a = 1; a <= 9; a++) {
            for (int b = 1; b <= 9; b++) {
                CHECK.is("rule after a wrong text", x.rule(a, b), 3);
            }
        }
        CHECK.is("a table was read", x.count(4), 1);
    }

    private static void secondTable() {
        DangerTables x = Check.withRules((a, b) -> 3);
        CHECK.is("read a second", Check.read(x, Check.table((a, b) -> a == b ? 0 : 2)), 45);
        for (int a = 1; a <= 9; a++) {
            for (int b = 1; b <= 9; b++) {
                CHECK.is("second rule", x.rule(a, b), a == b ? 0 : 2);
            }
        }
        CHECK.is("a table was read", x.count(4), 1);
    }

    /** Signs of an earlier text must not stand in for those that a later one lacks. */
    private static void shortTextAfterALongOne() {
        String table = Check.table((a, b) -> 1);
        for (int length = 0; length < 9; length++) {
            DangerTables x = Check.withRules((a, b) -> 1);
            CHECK.is("the first " + length, Check.read(x, table.substring(0, length)), -1 - length);
        }
        DangerTables x = Check.withRules((a, b) -> 1);
        CHECK.is("all but the last sign", Check.read(x, table.substring(0, 179)), -180);
        DangerTables y = Check.withRules((a, b) -> 1);
        CHECK.is("all but the last two", Check.read(y, table.substring(0, 178)), -179);
    }

    private static void wrongClasses() {
        DangerTables x = Check.withRules((a, b) -> 1);
        for (int none : new int[] {0, 10, -1, Integer.MIN_VALUE, Integer.MAX_VALUE}) {
            CHECK.illegal("rule " + none + " 1", () -> x.rule(none, 1));
            CHECK.illegal("rule 9 " + none, () -> x.rule(9, none));
            CHECK.illegal("rule " + none, () -> x.rule(none, none));
        }
    }
}
