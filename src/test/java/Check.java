import java.util.function.BooleanSupplier;
import java.util.function.IntBinaryOperator;
import java.util.function.Supplier;

/** What the tests share: counting wrong answers, tables to read, and goods and boxes to begin with. */
final class Check {
    private int wrong;

    void is(String call, long got, long due) {
        if (got != due) {
            tell(call + " answered " + got + ", due is " + due);
        }
    }

    void is(String call, boolean got, boolean due) {
        if (got != due) {
            tell(call + " answered " + got + ", due is " + due);
        }
    }

    void is(String call, String got, String due) {
        if (!got.equals(due)) {
            tell(call + " answered " + got + ", due is " + due);
        }
    }

    void illegal(String call, Supplier<Object> run) {
        is(call, answer(run), "IllegalArgumentException");
    }

    void badState(String call, Supplier<Object> run) {
        is(call, answer(run), "IllegalStateException");
    }

    void outOfBounds(String call, Supplier<Object> run) {
        is(call, answer(run), "IndexOutOfBoundsException");
    }

    void denies(String call, BooleanSupplier run) {
        is(call, run.getAsBoolean(), false);
    }

    void tell(String what) {
        wrong++;
        System.out.println(what);
    }

    void end() {
        if (wrong != 0) {
            System.out.println(wrong + " wrong");
            System.exit(1);
        }
    }

    /**
     * What a call answers, or the name of what it throws: of the very class, as the machine's own
     * exceptions are often below the due one.
     */
    static String answer(Supplier<Object> call) {
        try {
            return String.valueOf(call.get());
        } catch (RuntimeException e) {
            return e.getClass().getSimpleName();
        }
    }

    /** The rows of all pairs, the rule of each told by its two classes. */
    static String table(IntBinaryOperator rule) {
        StringBuilder rows = new StringBuilder();
        for (int a = 1; a <= 9; a++) {
            for (int b = a; b <= 9; b++) {
                rows.append(a).append(b).append(rule.applyAsInt(a, b)).append(';');
            }
        }
        return rows.toString();
    }

    static void sign(DangerTables x, String text) {
        for (int i = 0; i < text.length(); i++) {
            if (!x.sign(text.charAt(i))) {
                throw new AssertionError("sign " + i + " of a text was refused");
            }
        }
    }

    static int read(DangerTables x, String text) {
        sign(x, text);
        return x.read();
    }

    static DangerTables withRules(IntBinaryOperator rule) {
        DangerTables x = new DangerTables();
        if (read(x, table(rule)) != 45) {
            throw new AssertionError("a right table was not read");
        }
        return x;
    }

    /** A good with a class alone that is never limited and wants fields 0 and 4. */
    static int plain(DangerTables x, int cls) {
        return x.good(cls, 0, 2, 0, false, false);
    }

    static int boxWithPapers(DangerTables x, int good, int amount) {
        int box = x.box(good, amount);
        allPapers(x, box);
        return box;
    }

    static void allPapers(DangerTables x, int box) {
        for (int field = 0; field < 5; field++) {
            x.paper(box, field);
        }
    }
}
