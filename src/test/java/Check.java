import java.lang.reflect.Array;
import java.lang.reflect.Field;
import java.lang.reflect.Modifier;
import java.util.List;
import java.util.function.BooleanSupplier;
import java.util.function.IntBinaryOperator;

/** What the tests share: counting wrong answers, tables to read, and the state of an object. */
final class Check {
    private int wrong;

    void is(String call, long got, long due) {
        if (got != due) {
            tell(call + " answered " + got + ", due is " + due);
        }
    }

    void is(String call, boolean got, boolean due) {
        if (got != due) {
            tell(call + " answered " + got + ", due is " + due);
        }
    }

    /** The very class counts, as the machine's own exceptions are often below the due one. */
    void refuses(String call, DangerTables x, Class<? extends RuntimeException> due, Runnable run) {
        String before = state(x);
        Class<?> got = null;
        try {
            run.run();
        } catch (RuntimeException e) {
            got = e.getClass();
        }
        if (got != due) {
            tell(call + " threw " + got + ", due is " + due);
        }
        if (!before.equals(state(x))) {
            tell(call + " changed something");
        }
    }

    /** For the calls that answer false where they refuse. */
    void denies(String call, DangerTables x, BooleanSupplier run) {
        String before = state(x);
        is(call, run.getAsBoolean(), false);
        if (!before.equals(state(x))) {
            tell(call + " changed something");
        }
    }

    void illegal(String call, DangerTables x, Runnable run) {
        refuses(call, x, IllegalArgumentException.class, run);
    }

    void badState(String call, DangerTables x, Runnable run) {
        refuses(call, x, IllegalStateException.class, run);
    }

    void outOfBounds(String call, DangerTables x, Runnable run) {
        refuses(call, x, IndexOutOfBoundsException.class, run);
    }

    void tell(String what) {
        wrong++;
        System.out.println(what);
    }

    void end() {
        if (wrong != 0) {
            System.out.println(wrong + " wrong");
            System.exit(1);
        }
    }

    /** The rows of all pairs, the rule of each told by its two classes. */
    static String table(IntBinaryOperator rule) {
        StringBuilder rows = new StringBuilder();
        for (int a = 1; a <= 9; a++) {
            for (int b = a; b <= 9; b++) {
                rows.append(a).append(b).append(rule.applyAsInt(a, b)).append(';');
            }
        }
        return rows.toString();
    }

    static void sign(DangerTables x, String text) {
        for (int i = 0; i < text.length(); i++) {
            if (!x.sign(text.charAt(i))) {
                throw new AssertionError("sign " + i + " of a text was refused");
            }
        }
    }

    static int read(DangerTables x, String text) {
        sign(x, text);
        return x.read();
    }

    static DangerTables withRules(IntBinaryOperator rule) {
        DangerTables x = new DangerTables();
        if (read(x, table(rule)) != 45) {
            throw new AssertionError("a right table was not read");
        }
        return x;
    }

    /** A good with a class alone that is never limited and wants fields 0 and 4. */
    static int plain(DangerTables x, int cls) {
        return x.good(cls, 0, 2, 0, false, false);
    }

    static int boxWithPapers(DangerTables x, int good, int amount) {
        int box = x.box(good, amount);
        allPapers(x, box);
        return box;
    }

    static void allPapers(DangerTables x, int box) {
        for (int field = 0; field < 5; field++) {
            x.paper(box, field);
        }
    }

    /**
     * All that an object holds, its classes' and lists' fields too. It is read past the face, as
     * asking the face would use up the 512 calls that the document promises.
     */
    static String state(Object it) {
        StringBuilder all = new StringBuilder();
        try {
            addState(all, it);
        } catch (IllegalAccessException e) {
            throw new AssertionError(e);
        }
        return all.toString();
    }

    private static void addState(StringBuilder all, Object it) throws IllegalAccessException {
        all.append('(');
        if (it instanceof List<?> list) {
            for (Object element : list) {
                addState(all, element);
            }
        } else if (it != null && it.getClass().isArray()) {
            for (int i = 0; i < Array.getLength(it); i++) {
                addState(all, Array.get(it, i));
            }
        } else if (it == null || it.getClass().getPackageName().equals("java.lang")) {
            all.append(it);
        } else {
            for (Field field : it.getClass().getDeclaredFields()) {
                if (!Modifier.isStatic(field.getModifiers())) {
                    field.setAccessible(true);
                    all.append(field.getName());
                    addState(all, field.get(it));
                }
            }
        }
        all.append(')');
    }
}
