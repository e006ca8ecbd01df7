import java.util.ArrayList;
import java.util.List;
import java.util.function.Consumer;
import java.util.function.Function;

/**
 * Whether a call changes nothing. An object is built twice in the same way, one of the two gets the
 * call, and all calls that tell the state have to answer the same from both. One object can't be asked
 * before and after, as nothing is promised behind its 512th call; so each list of questions has a new
 * object too.
 */
final class Twins {
    private final Check check;
    private final String name;
    private final Consumer<DangerTables> build;
    private final List<Function<DangerTables, Object>> questions = new ArrayList<>();
    private final List<String> due = new ArrayList<>();

    Twins(Check check, String name, Consumer<DangerTables> build) {
        this.check = check;
        this.name = name;
        this.build = build;
        DangerTables first = built();
        int goods = first.count(1);
        int boxes = first.count(2);
        questions.add(Twins::countsAndZones);
        questions.add(Twins::rules);
        questions.add(x -> looks(x, boxes));
        questions.add(x -> aparts(x, boxes));
        questions.add(x -> puts(x, boxes));
        questions.add(x -> goodsOf(x, Math.min(boxes, 3), goods));
        for (int good = 0; good < goods; good++) {
            int number = good;
            questions.add(x -> exemptPairs(x, number));
            questions.add(x -> numbersOf(x, number));
        }
        for (Function<DangerTables, Object> question : questions) {
            due.add(Check.answer(() -> question.apply(built())));
        }
    }

    private DangerTables built() {
        DangerTables x = new DangerTables();
        build.accept(x);
        return x;
    }

    /** The call answers what is due (or throws it, told by its name), and changes nothing. */
    void unchanged(String call, Object answer, Function<DangerTables, Object> run) {
        for (int i = 0; i < questions.size(); i++) {
            DangerTables x = built();
            check.is(name + ": " + call, Check.answer(() -> run.apply(x)), answer.toString());
            compare(call, i, x);
        }
    }

    /** What another building leads to can't be told from this one. */
    void sameAs(String how, Consumer<DangerTables> other) {
        for (int i = 0; i < questions.size(); i++) {
            DangerTables x = new DangerTables();
            other.accept(x);
            compare(how, i, x);
        }
    }

    private void compare(String call, int question, DangerTables x) {
        String after = Check.answer(() -> questions.get(question).apply(x));
        check.is(name + ": what is told (" + question + ") after " + call, after, due.get(question));
    }

    /** The text's signs are told by reading them, at the end, as that uses them up. */
    private static String countsAndZones(DangerTables x) {
        StringBuilder told = new StringBuilder();
        for (int what = 0; what < 5; what++) {
            told.append(x.count(what)).append(' ');
        }
        for (int zone = 0; zone < 4; zone++) {
            for (int cls = 1; cls <= 9; cls++) {
                told.append(x.zone(zone, cls)).append(' ');
            }
        }
        return told.append(x.read()).toString();
    }

    private static String rules(DangerTables x) {
        StringBuilder told = new StringBuilder();
        for (int a = 1; a <= 9; a++) {
            for (int b = 1; b <= 9; b++) {
                told.append(x.rule(a, b));
            }
        }
        return told.toString();
    }

    private static String looks(DangerTables x, int boxes) {
        StringBuilder told = new StringBuilder();
        for (int box = 0; box < boxes; box++) {
            for (int what = 0; what < 7; what++) {
                told.append(x.look(box, what)).append(' ');
            }
            told.append(x.missing(box)).append(' ');
        }
        return told.toString();
    }

    private static String aparts(DangerTables x, int boxes) {
        StringBuilder told = new StringBuilder();
        for (int box = 1; box < boxes; box++) {
            for (int other = 0; other < box; other++) {
                told.append(x.apart(box, other));
            }
        }
        return told.toString();
    }

    /** What bars the boxes tells the mosts of the zones. */
    private static String puts(DangerTables x, int boxes) {
        StringBuilder told = new StringBuilder();
        for (int box = 0; box < boxes; box++) {
            for (int zone = 0; zone < 4; zone++) {
                int number = box;
                int into = zone;
                String bar = Check.answer(() -> x.put(into, number, 10, 10));
                told.append(bar).append(' ');
                if (bar.equals("0")) {
                    told.append(x.take(box)).append(' ');
                }
            }
        }
        return told.toString();
    }

    /** A good that a box has can't come to it again. */
    private static String goodsOf(DangerTables x, int boxes, int goods) {
        StringBuilder told = new StringBuilder();
        for (int box = 0; box < boxes; box++) {
            for (int good = 0; good < goods; good++) {
                int number = box;
                int more = good;
                told.append(Check.answer(() -> x.also(number, more, 1))).append(' ');
            }
        }
        return told.toString();
    }

    /** A pair that is exempt can't become so again. */
    private static String exemptPairs(DangerTables x, int good) {
        StringBuilder told = new StringBuilder();
        for (int a = 1; a <= 9; a++) {
            for (int b = a; b <= 9; b++) {
                told.append(x.exempt(good, a, b) ? 1 : 0);
            }
        }
        return told.toString();
    }

    /** What a good is shows in boxes of it, if there is room for them. */
    private static String numbersOf(DangerTables x, int good) {
        StringBuilder told = new StringBuilder();
        for (int amount : new int[] {1, 65, 66, 67, 500, 990, 991, 1000}) {
            String made = Check.answer(() -> x.box(good, amount));
            told.append(made).append(' ');
            if (x.count(2) > 0) {
                int last = x.count(2) - 1;
                told.append(x.missing(last)).append(' ').append(x.look(last, 5)).append(' ');
            }
        }
        if (x.count(2) > 0) {
            int last = x.count(2) - 1;
            Check.allPapers(x, last);
            told.append(Check.answer(() -> x.put(3, last, 5, 5))).append(' ');
        }
        for (int cls = 1; cls <= 9; cls++) {
            told.append(x.zone(3, cls)).append(' ');
        }
        return told.toString();
    }
}
