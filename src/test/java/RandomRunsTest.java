import java.util.Random;
import java.util.function.IntSupplier;

/**
 * Runs of up to 512 calls with arguments by chance (always the same chance), each answer compared with
 * the Model's. An exception has to be of the very class that is due: the machine's own are not.
 */
public final class RandomRunsTest {
    private static final int RUNS = 3000;
    private static final int CALLS = 512;
    private static final int[] FAR = {Integer.MIN_VALUE, -1000, -2, 1000000, Integer.MAX_VALUE};

    private final Random random;
    private final Check check;
    private final DangerTables x = new DangerTables();
    private final Model model = new Model();
    private int calls;

    private RandomRunsTest(int run, Check check) {
        this.random = new Random(run);
        this.check = check;
    }

    public static void main(String[] args) {
        Check check = new Check();
        for (int run = 0; run < RUNS; run++) {
            new RandomRunsTest(run, check).run();
        }
        check.end();
    }

    private void run() {
        if (random.nextInt(4) > 0) {
            tellTable();
        }
        while (calls < CALLS - 5) {
            call(random.nextInt(40));
        }
    }

    /** Mostly mild rules, as under strict ones hardly a box could be put beside another. */
    private void tellTable() {
        int strictest = random.nextInt(4) + 1;
        String rows = Check.table((a, b) -> random.nextInt(3) == 0 ? random.nextInt(strictest + 1) : random.nextInt(2));
        StringBuilder text = new StringBuilder(rows);
        if (random.nextInt(3) == 0) {
            text.setCharAt(random.nextInt(180), "0123456789;".charAt(random.nextInt(11)));
        }
        if (random.nextInt(10) == 0) {
            text.setLength(random.nextInt(180));
        }
        if (random.nextInt(10) == 0) {
            text.append("1234;".charAt(random.nextInt(5)));
        }
        for (int i = 0; i < text.length(); i++) {
            sign(text.charAt(i));
        }
        same("read()", x::read, model::read);
    }

    /** least .. greatest, seldom one beside them or far away. */
    private int near(int least, int greatest) {
        int chance = random.nextInt(60);
        if (chance == 0) {
            return FAR[random.nextInt(FAR.length)];
        }
        return chance < 3 ? least - 1 : chance < 5 ? greatest + 1 : least + random.nextInt(greatest - least + 1);
    }

    private int anyGood() {
        return near(0, Math.max(0, model.count(1) - 1));
    }

    private int anyBox() {
        return near(0, Math.max(0, model.count(2) - 1));
    }

    private int anyAmount() {
        int[] greatest = {5, 100, 1000, 30000};
        return near(1, greatest[random.nextInt(4)]);
    }

    private void call(int kind) {
        switch (kind) {
            case 0 -> sign(near('0', ';'));
            case 1 -> rule(near(1, 9), near(1, 9));
            case 2, 3 -> good();
            case 4, 5 -> exempt(anyGood(), near(1, 9), near(1, 9));
            case 6, 7 -> box(anyGood(), anyAmount());
            case 8, 9 -> also(anyBox(), anyGood(), anyAmount());
            case 10, 11, 12 -> apart(anyBox(), anyBox());
            case 13, 14 -> ship(anyBox(), anyBox(), near(0, random.nextBoolean() ? 8 : 100));
            case 15 -> most(near(0, 3), near(1, 9), random.nextBoolean() ? near(0, 100000) : near(0, 2000));
            case 16, 17 -> zone(near(0, 3), near(1, 9));
            case 18, 19, 20, 21, 22 -> put(near(0, 1), anyBox(), near(0, 19), near(0, 19));
            case 23, 24, 25 -> put(near(0, 3), anyBox(), near(0, 2), near(0, 2));
            case 26, 27 -> take(anyBox());
            case 28, 29 -> paper(anyBox(), near(0, 4));
            case 30, 31, 32, 33 -> allPapers(anyBox());
            case 34 -> missing(anyBox());
            case 35, 36, 37 -> look(anyBox(), near(0, 6));
            case 38 -> count(near(0, 4));
            default -> seldom();
        }
    }

    private void allPapers(int box) {
        for (int field = 0; field < 5; field++) {
            paper(box, field);
        }
    }

    private void seldom() {
        if (random.nextInt(6) == 0 && calls < CALLS - 200) {
            tellTable();
        } else {
            same("read()", x::read, model::read);
        }
    }

    private void sign(int c) {
        same("sign(" + c + ")", () -> x.sign(c) ? 1 : 0, () -> model.sign(c) ? 1 : 0);
    }

    private void rule(int a, int b) {
        same("rule(" + a + ", " + b + ")", () -> x.rule(a, b), () -> model.rule(a, b));
    }

    private void good() {
        int cls = near(1, 9);
        int side = random.nextBoolean() ? 0 : near(0, 9);
        int group = near(1, 3);
        int limit = random.nextBoolean() ? near(0, 5) : near(0, 1000);
        boolean marine = random.nextBoolean();
        boolean temperature = random.nextBoolean();
        same("good(" + cls + ", " + side + ", " + group + ", " + limit + ", " + marine + ", " + temperature + ")",
                () -> x.good(cls, side, group, limit, marine, temperature),
                () -> model.good(cls, side, group, limit, marine, temperature));
    }

    private void exempt(int good, int a, int b) {
        same("exempt(" + good + ", " + a + ", " + b + ")",
                () -> x.exempt(good, a, b) ? 1 : 0, () -> model.exempt(good, a, b) ? 1 : 0);
    }

    private void box(int good, int amount) {
        same("box(" + good + ", " + amount + ")", () -> x.box(good, amount), () -> model.box(good, amount));
    }

    private void also(int box, int good, int amount) {
        same("also(" + box + ", " + good + ", " + amount + ")",
                () -> x.also(box, good, amount), () -> model.also(box, good, amount));
    }

    private void apart(int box, int other) {
        same("apart(" + box + ", " + other + ")", () -> x.apart(box, other), () -> model.apart(box, other));
    }

    private void ship(int box, int other, int cells) {
        same("ship(" + box + ", " + other + ", " + cells + ")",
                () -> x.ship(box, other, cells) ? 1 : 0, () -> model.ship(box, other, cells) ? 1 : 0);
    }

    private void most(int zone, int cls, int kilograms) {
        same("most(" + zone + ", " + cls + ", " + kilograms + ")",
                () -> x.most(zone, cls, kilograms) ? 1 : 0, () -> model.most(zone, cls, kilograms) ? 1 : 0);
    }

    private void zone(int zone, int cls) {
        same("zone(" + zone + ", " + cls + ")", () -> x.zone(zone, cls), () -> model.zone(zone, cls));
    }

    private void put(int zone, int box, int slotX, int slotY) {
        same("put(" + zone + ", " + box + ", " + slotX + ", " + slotY + ")",
                () -> x.put(zone, box, slotX, slotY), () -> model.put(zone, box, slotX, slotY));
    }

    private void take(int box) {
        same("take(" + box + ")", () -> x.take(box), () -> model.take(box));
    }

    private void paper(int box, int field) {
        same("paper(" + box + ", " + field + ")",
                () -> x.paper(box, field) ? 1 : 0, () -> model.paper(box, field) ? 1 : 0);
    }

    private void missing(int box) {
        same("missing(" + box + ")", () -> x.missing(box), () -> model.missing(box));
    }

    private void look(int box, int what) {
        same("look(" + box + ", " + what + ")", () -> x.look(box, what), () -> model.look(box, what));
    }

    private void count(int what) {
        same("count(" + what + ")", () -> x.count(what), () -> model.count(what));
    }

    private void same(String call, IntSupplier got, IntSupplier due) {
        calls++;
        String gotAnswer = answer(got);
        String dueAnswer = answer(due);
        if (!gotAnswer.equals(dueAnswer)) {
            check.tell("call " + calls + ": " + call + " answered " + gotAnswer + ", due is " + dueAnswer);
            // What follows a wrong answer tells nothing more.
            calls = CALLS;
        }
    }

    private static String answer(IntSupplier call) {
        try {
            return Integer.toString(call.getAsInt());
        } catch (RuntimeException e) {
            return e.getClass().getName();
        }
    }
}
