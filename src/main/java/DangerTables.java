import java.util.ArrayList;
import java.util.Arrays;

/**
 * Dangerous goods: how far classes are to be apart, goods, boxes, zones of a yard,
 * cells of a ship, exemptions, papers, and what bars a place.
 */
public final class DangerTables {
    public static final int NONE = -1;

    private static final int MOST_SIGNS = 300;
    private static final int MOST_GOODS = 16;
    private static final int MOST_BOXES = 12;
    private static final int MOST_PARTS = 4;
    private static final int MOST_LIMIT = 1000;
    private static final int MOST_AMOUNT = 30000;
    private static final int MOST_IN_ZONE = 100000;
    private static final int MOST_CELLS = 100;

    private static final int CLASSES = 9;
    private static final int PAIRS = 45;
    private static final int ROW_SIGNS = 4;
    private static final int GROUPS = 3;
    private static final int ZONES = 4;
    private static final int SLOTS = 20;
    private static final int FIELDS = 5;
    private static final int LOOKS = 7;

    private static final int AWAY = 1;
    private static final int SEPARATED = 2;
    private static final int BY_A_HOLD = 3;
    private static final int LENGTHWISE = 4;

    private static final int FIELD_ALWAYS = 1;
    private static final int FIELD_GROUP = 1 << 1;
    private static final int FIELD_MARINE = 1 << 2;
    private static final int FIELD_TEMPERATURE = 1 << 3;
    private static final int FIELD_UNLIMITED = 1 << 4;

    private static final int BAR = 16;
    private static final int BAR_PAPERS = BAR;
    private static final int BAR_SLOT = 2 * BAR;
    private static final int BAR_MOST = 3 * BAR;
    private static final int BAR_DISTANCE = 4 * BAR;

    private final RuleText text;
    private final int[] rules;
    private boolean tableRead;
    private final ArrayList<Good> goods;
    private final ArrayList<Box> boxes;
    private final int[][] zoneMost;

    public DangerTables() {
        text = new RuleText();
        rules = new int[PAIRS];
        Arrays.fill(rules, LENGTHWISE);
        goods = new ArrayList<Good>();
        boxes = new ArrayList<Box>();
        zoneMost = new int[ZONES][CLASSES + 1];
        for (int zone = 0; zone < ZONES; zone++) {
            Arrays.fill(zoneMost[zone], MOST_IN_ZONE);
        }
    }

    /** A sign comes to the text; false if it is refused. */
    public boolean sign(int c) {
        return text.append(c);
    }

    /** Reads the text and uses it up: 45, or -1 less the first wrong place. */
    public int read() {
        int wrongPlace = text.firstWrongPlace();
        text.drop();
        if (wrongPlace != NONE) {
            return -1 - wrongPlace;
        }
        text.copyRulesTo(rules);
        tableRead = true;
        return PAIRS;
    }

    /** The rule between two classes. */
    public int rule(int a, int b) throws IllegalArgumentException {
        if (!isClass(a) || !isClass(b)) {
            throw new IllegalArgumentException("no such class");
        }
        return rules[pairNumber(a, b)];
    }

    /** A new good: its number. */
    public int good(int cls, int side, int group, int limit, boolean marine, boolean temperature)
            throws IllegalArgumentException, IllegalStateException {
        if (!isClass(cls) || !isSide(side, cls)) {
            throw new IllegalArgumentException("no such class or side class");
        }
        if (group < 1 || group > GROUPS || limit < 0 || limit > MOST_LIMIT) {
            throw new IllegalArgumentException("no such group or limit");
        }
        if (goods.size() >= MOST_GOODS) {
            throw new IllegalStateException("no room for one more good");
        }
        goods.add(new Good(cls, side, limit, fieldsOf(group, marine, temperature)));
        return goods.size() - 1;
    }

    /** A pair of classes is exempt for a good; false if that can't be or is so already. */
    public boolean exempt(int good, int a, int b) {
        if (!isGood(good) || !isClass(a) || !isClass(b)) {
            return false;
        }
        return goods.get(good).addExemption(pairNumber(a, b));
    }

    /** A new box with a first good: its number. */
    public int box(int good, int amount) throws IllegalArgumentException, IllegalStateException {
        if (!isGood(good) || !isAmount(amount)) {
            throw new IllegalArgumentException("no such good or amount");
        }
        if (boxes.size() >= MOST_BOXES) {
            throw new IllegalStateException("no room for one more box");
        }
        Box made = new Box();
        made.fill(goods.get(good), good, amount);
        boxes.add(made);
        return boxes.size() - 1;
    }

    /** One more good in a box: how many it has then. */
    public int also(int box, int good, int amount) throws IllegalArgumentException, IllegalStateException {
        if (!isBox(box) || !isGood(good) || !isAmount(amount)) {
            throw new IllegalArgumentException("no such box, good or amount");
        }
        Box it = boxes.get(box);
        if (it.holds(good)) {
            throw new IllegalArgumentException("the box has that good");
        }
        if (it.lies() || it.partCount() >= MOST_PARTS) {
            throw new IllegalStateException("the box lies somewhere or is full");
        }
        it.fill(goods.get(good), good, amount);
        return it.partCount();
    }

    /** By which rule two boxes are to be apart. */
    public int apart(int box, int other) throws IllegalArgumentException {
        if (!areTwoBoxes(box, other)) {
            throw new IllegalArgumentException("no such two boxes");
        }
        return ruleOfBoxes(boxes.get(box), boxes.get(other));
    }

    /** Whether so many cells between two boxes on a ship are enough. */
    public boolean ship(int box, int other, int cells) throws IllegalArgumentException {
        if (!areTwoBoxes(box, other)) {
            throw new IllegalArgumentException("no such two boxes");
        }
        if (cells < 0 || cells > MOST_CELLS) {
            throw new IllegalArgumentException("no such number of cells");
        }
        return cells >= leastCells(ruleOfBoxes(boxes.get(box), boxes.get(other)));
    }

    /** Sets what a zone may hold of a class; false if that can't be. */
    public boolean most(int zone, int cls, int kilograms) {
        if (!isZone(zone) || !isClass(cls) || kilograms < 0 || kilograms > MOST_IN_ZONE) {
            return false;
        }
        zoneMost[zone][cls] = kilograms;
        return true;
    }

    /** What lies in a zone of a class or with that side class. */
    public int zone(int zone, int cls) throws IllegalArgumentException {
        if (!isZone(zone) || !isClass(cls)) {
            throw new IllegalArgumentException("no such zone or class");
        }
        return kilogramsInZone(zone, cls);
    }

    /** Puts a box on a slot: 0, or 16 times what bars first and the class or box that does. */
    public int put(int zone, int box, int x, int y) throws IllegalArgumentException, IllegalStateException {
        if (!isZone(zone) || !isBox(box) || !isSlot(x, y)) {
            throw new IllegalArgumentException("no such zone, box or slot");
        }
        Box it = boxes.get(box);
        if (it.lies()) {
            throw new IllegalStateException("the box lies somewhere");
        }
        int bar = firstBar(it, zone, x, y);
        if (bar == 0) {
            it.lay(zone, x, y);
        }
        return bar;
    }

    /** Takes a box away: its zone, or NONE. */
    public int take(int box) throws IllegalArgumentException {
        if (!isBox(box)) {
            throw new IllegalArgumentException("no such box");
        }
        Box it = boxes.get(box);
        int left = it.zone;
        it.lay(NONE, NONE, NONE);
        return left;
    }

    /** A field of a box's papers is told; false if there is none such or it was. */
    public boolean paper(int box, int field) {
        if (!isBox(box) || field < 0 || field >= FIELDS) {
            return false;
        }
        return boxes.get(box).tell(1 << field);
    }

    /** The fields that are wanted and were not told, as bits. */
    public int missing(int box) throws IllegalArgumentException {
        if (!isBox(box)) {
            throw new IllegalArgumentException("no such box");
        }
        return boxes.get(box).untoldFields();
    }

    /** One of seven numbers of a box. */
    public int look(int box, int what) throws IndexOutOfBoundsException {
        if (!isBox(box) || what < 0 || what >= LOOKS) {
            throw new IndexOutOfBoundsException("no such box or what");
        }
        Box it = boxes.get(box);
        switch (what) {
            case 0:
                return it.partCount();
            case 1:
                return it.zone;
            case 2:
                return it.x;
            case 3:
                return it.y;
            case 4:
                return it.kilograms();
            case 5:
                return it.limitedCount();
            default:
                return it.told;
        }
    }

    /** One of five numbers of the whole; NONE for another what. */
    public int count(int what) {
        switch (what) {
            case 0:
                return text.length;
            case 1:
                return goods.size();
            case 2:
                return boxes.size();
            case 3:
                return lyingCount();
            case 4:
                return tableRead ? 1 : 0;
            default:
                return NONE;
        }
    }

    private static boolean isClass(int cls) {
        return cls >= 1 && cls <= CLASSES;
    }

    private static boolean isSide(int side, int cls) {
        return side == 0 || isClass(side) && side != cls;
    }

    private static boolean isAmount(int amount) {
        return amount >= 1 && amount <= MOST_AMOUNT;
    }

    private static boolean isZone(int zone) {
        return zone >= 0 && zone < ZONES;
    }

    private static boolean isSlot(int x, int y) {
        return x >= 0 && x < SLOTS && y >= 0 && y < SLOTS;
    }

    private boolean isGood(int number) {
        return number >= 0 && number < goods.size();
    }

    private boolean isBox(int number) {
        return number >= 0 && number < boxes.size();
    }

    private boolean areTwoBoxes(int box, int other) {
        return isBox(box) && isBox(other) && box != other;
    }

    /**
     * One number, 0 .. 44, for both orders of a pair, so that a table can't differ between them
     * and a good's exempt pairs fit into the bits of a long.
     */
    private static int pairNumber(int a, int b) {
        int greater = a > b ? a : b;
        int less = a > b ? b : a;
        return greater * (greater - 1) / 2 + less - 1;
    }

    private static int fieldsOf(int group, boolean marine, boolean temperature) {
        int fields = FIELD_ALWAYS;
        if (group == 1) {
            fields |= FIELD_GROUP;
        }
        if (marine) {
            fields |= FIELD_MARINE;
        }
        if (temperature) {
            fields |= FIELD_TEMPERATURE;
        }
        return fields;
    }

    private int ruleOfBoxes(Box one, Box other) {
        int strictest = 0;
        for (int i = 0; i < one.parts.size(); i++) {
            for (int j = 0; j < other.parts.size(); j++) {
                strictest = Math.max(strictest, ruleOfParts(one.parts.get(i), other.parts.get(j)));
            }
        }
        return strictest;
    }

    private int ruleOfParts(Part one, Part other) {
        Good a = one.good;
        Good b = other.good;
        int strictest = ruleOfClasses(a, a.cls, b, b.cls);
        strictest = Math.max(strictest, ruleOfClasses(a, a.cls, b, b.side));
        strictest = Math.max(strictest, ruleOfClasses(a, a.side, b, b.cls));
        strictest = Math.max(strictest, ruleOfClasses(a, a.side, b, b.side));
        return one.isLimited() || other.isLimited() ? Math.min(strictest, AWAY) : strictest;
    }

    private int ruleOfClasses(Good one, int a, Good other, int b) {
        // A good without a side class has 0 there, which no pair and no rule belongs to.
        if (!isClass(a) || !isClass(b)) {
            return 0;
        }
        int pair = pairNumber(a, b);
        return one.isExempt(pair) || other.isExempt(pair) ? 0 : rules[pair];
    }

    private int kilogramsInZone(int zone, int cls) {
        int sum = 0;
        for (int i = 0; i < boxes.size(); i++) {
            Box it = boxes.get(i);
            if (it.zone == zone) {
                sum += it.kilogramsOf(cls);
            }
        }
        return sum;
    }

    private int lyingCount() {
        int lying = 0;
        for (int i = 0; i < boxes.size(); i++) {
            if (boxes.get(i).lies()) {
                lying++;
            }
        }
        return lying;
    }

    private int firstBar(Box box, int zone, int x, int y) {
        if (box.untoldFields() != 0) {
            return BAR_PAPERS;
        }
        if (isTaken(zone, x, y)) {
            return BAR_SLOT;
        }
        int cls = leastPassedClass(box, zone);
        if (cls != NONE) {
            return BAR_MOST + cls;
        }
        int near = leastTooNear(box, zone, x, y);
        return near == NONE ? 0 : BAR_DISTANCE + near;
    }

    private boolean isTaken(int zone, int x, int y) {
        for (int i = 0; i < boxes.size(); i++) {
            Box it = boxes.get(i);
            if (it.zone == zone && it.x == x && it.y == y) {
                return true;
            }
        }
        return false;
    }

    private int leastPassedClass(Box box, int zone) {
        for (int cls = 1; cls <= CLASSES; cls++) {
            int own = box.kilogramsOf(cls);
            // A lowered most may be passed by what lies there; that bars only boxes with that class.
            if (own > 0 && own + kilogramsInZone(zone, cls) > zoneMost[zone][cls]) {
                return cls;
            }
        }
        return NONE;
    }

    private int leastTooNear(Box box, int zone, int x, int y) {
        for (int i = 0; i < boxes.size(); i++) {
            Box other = boxes.get(i);
            if (other.zone == zone && isTooNear(ruleOfBoxes(box, other), other.distanceTo(x, y))) {
                return i;
            }
        }
        return NONE;
    }

    private static boolean isTooNear(int rule, int distance) {
        return rule == LENGTHWISE || distance < leastDistance(rule);
    }

    /** LENGTHWISE is missing, as no distance in one zone is enough for it. */
    private static int leastDistance(int rule) {
        switch (rule) {
            case AWAY:
                return 3;
            case SEPARATED:
                return 6;
            case BY_A_HOLD:
                return 12;
            default:
                return 0;
        }
    }

    private static int leastCells(int rule) {
        switch (rule) {
            case AWAY:
                return 1;
            case SEPARATED:
                return 2;
            case BY_A_HOLD:
                return 4;
            case LENGTHWISE:
                return 8;
            default:
                return 0;
        }
    }

    /** The text of a table, and the rules that the last reading of it found. */
    private static final class RuleText {
        private final int[] signs;
        private int length;
        private final int[] found;

        RuleText() {
            signs = new int[MOST_SIGNS];
            found = new int[PAIRS];
        }

        boolean append(int c) {
            boolean known = c >= '0' && c <= '9' || c == ';';
            if (!known || length >= MOST_SIGNS) {
                return false;
            }
            signs[length] = c;
            length++;
            return true;
        }

        void drop() {
            length = 0;
        }

        void copyRulesTo(int[] rules) {
            System.arraycopy(found, 0, rules, 0, PAIRS);
        }

        /** NONE if the text is right. */
        int firstWrongPlace() {
            Arrays.fill(found, NONE);
            for (int row = 0; row < length; row += ROW_SIGNS) {
                int wrongPlace = firstWrongPlaceOfRow(row);
                if (wrongPlace != NONE) {
                    return wrongPlace;
                }
            }
            // No pair stands twice here, so that the length alone tells whether all stand there.
            return length == PAIRS * ROW_SIGNS ? NONE : length;
        }

        private int firstWrongPlaceOfRow(int row) {
            int first = digitAt(row);
            if (!isClass(first)) {
                return row;
            }
            int second = digitAt(row + 1);
            if (!isClass(second) || found[pairNumber(first, second)] != NONE) {
                return row + 1;
            }
            int rule = digitAt(row + 2);
            if (rule < 0 || rule > LENGTHWISE) {
                return row + 2;
            }
            if (row + 3 >= length || signs[row + 3] != ';') {
                return row + 3;
            }
            found[pairNumber(first, second)] = rule;
            return NONE;
        }

        /** NONE behind the end, so that the first sign a cut off row lacks, at the length, is wrong. */
        private int digitAt(int place) {
            return place < length && signs[place] != ';' ? signs[place] - '0' : NONE;
        }
    }

    private static final class Good {
        private final int cls;
        private final int side;
        private final int limit;
        private final int fields;
        private long exemptPairs;

        Good(int cls, int side, int limit, int fields) {
            this.cls = cls;
            this.side = side;
            this.limit = limit;
            this.fields = fields;
        }

        boolean hasClass(int wanted) {
            return cls == wanted || side == wanted;
        }

        boolean isExempt(int pair) {
            return (exemptPairs >> pair & 1L) != 0;
        }

        boolean addExemption(int pair) {
            if (isExempt(pair)) {
                return false;
            }
            exemptPairs |= 1L << pair;
            return true;
        }
    }

    /** A good in a box. */
    private static final class Part {
        private final Good good;
        private final int number;
        private final int amount;

        Part(Good good, int number, int amount) {
            this.good = good;
            this.number = number;
            this.amount = amount;
        }

        boolean isLimited() {
            return amount <= good.limit;
        }

        int wantedFields() {
            return isLimited() ? good.fields : good.fields | FIELD_UNLIMITED;
        }
    }

    private static final class Box {
        private final ArrayList<Part> parts;
        private int zone;
        private int x;
        private int y;
        private int told;

        Box() {
            parts = new ArrayList<Part>();
            zone = NONE;
            x = NONE;
            y = NONE;
        }

        void fill(Good good, int number, int amount) {
            parts.add(new Part(good, number, amount));
        }

        int partCount() {
            return parts.size();
        }

        boolean holds(int number) {
            for (int i = 0; i < parts.size(); i++) {
                if (parts.get(i).number == number) {
                    return true;
                }
            }
            return false;
        }

        boolean lies() {
            return zone != NONE;
        }

        void lay(int newZone, int newX, int newY) {
            zone = newZone;
            x = newX;
            y = newY;
        }

        int distanceTo(int otherX, int otherY) {
            return Math.abs(x - otherX) + Math.abs(y - otherY);
        }

        int kilograms() {
            int sum = 0;
            for (int i = 0; i < parts.size(); i++) {
                sum += parts.get(i).amount;
            }
            return sum;
        }

        int kilogramsOf(int cls) {
            int sum = 0;
            for (int i = 0; i < parts.size(); i++) {
                Part part = parts.get(i);
                if (part.good.hasClass(cls)) {
                    sum += part.amount;
                }
            }
            return sum;
        }

        int limitedCount() {
            int limited = 0;
            for (int i = 0; i < parts.size(); i++) {
                if (parts.get(i).isLimited()) {
                    limited++;
                }
            }
            return limited;
        }

        boolean tell(int field) {
            if ((told & field) != 0) {
                return false;
            }
            told |= field;
            return true;
        }

        int untoldFields() {
            int wanted = 0;
            for (int i = 0; i < parts.size(); i++) {
                wanted |= parts.get(i).wantedFields();
            }
            return wanted & ~told;
        }
    }
}
