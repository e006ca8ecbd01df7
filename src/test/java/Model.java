import java.util.ArrayList;
import java.util.HashMap;
import java.util.HashSet;
import java.util.LinkedHashMap;
import java.util.List;
import java.util.Map;
import java.util.Set;

/**
 * The document written a second time, with the Java library and without care for speed, so that
 * RandomRunsTest can compare. It shares no code with DangerTables.
 */
final class Model {
    private record Good(int cls, int side, int group, int limit, boolean marine, boolean temperature,
            Set<String> exempt) {
        List<Integer> classes() {
            return side == 0 ? List.of(cls) : List.of(cls, side);
        }
    }

    private record Place(int zone, int x, int y) { }

    private static final class Box {
        final Map<Integer, Integer> amounts = new LinkedHashMap<>();
        final Set<Integer> told = new HashSet<>();
        Place place;
    }

    private String text = "";
    private Map<String, Integer> table = new HashMap<>();
    private final List<Good> goods = new ArrayList<>();
    private final List<Box> boxes = new ArrayList<>();
    private final Map<String, Integer> mosts = new HashMap<>();

    private static void needs(boolean so) {
        if (!so) {
            throw new IllegalArgumentException();
        }
    }

    private static void allows(boolean so) {
        if (!so) {
            throw new IllegalStateException();
        }
    }

    private static boolean in(int least, int value, int greatest) {
        return least <= value && value <= greatest;
    }

    private static String key(int a, int b) {
        return a < b ? a + "," + b : b + "," + a;
    }

    boolean sign(int c) {
        if (text.length() == 300 || c < 0 || c > 127 || !Character.toString(c).matches("[0-9;]")) {
            return false;
        }
        text += (char) c;
        return true;
    }

    int read() {
        String signs = text;
        text = "";
        Map<String, Integer> rows = new HashMap<>();
        String[] allowed = {"[1-9]", "[1-9]", "[0-4]", ";"};
        for (int i = 0; i < signs.length(); i++) {
            if (!signs.substring(i, i + 1).matches(allowed[i % 4])) {
                return -1 - i;
            }
            if (i % 4 == 1 && rows.containsKey(key(signs.charAt(i - 1) - 48, signs.charAt(i) - 48))) {
                return -1 - i;
            }
            if (i % 4 == 3) {
                rows.put(key(signs.charAt(i - 3) - 48, signs.charAt(i - 2) - 48), signs.charAt(i - 1) - 48);
            }
        }
        if (signs.length() % 4 != 0 || rows.size() < 45) {
            return -1 - signs.length();
        }
        table = rows;
        return 45;
    }

    int rule(int a, int b) {
        needs(in(1, a, 9) && in(1, b, 9));
        return table.getOrDefault(key(a, b), 4);
    }

    int good(int cls, int side, int group, int limit, boolean marine, boolean temperature) {
        needs(in(1, cls, 9) && in(0, side, 9) && side != cls && in(1, group, 3) && in(0, limit, 1000));
        allows(goods.size() < 16);
        goods.add(new Good(cls, side, group, limit, marine, temperature, new HashSet<>()));
        return goods.size() - 1;
    }

    private boolean hasGood(int good) {
        return in(0, good, goods.size() - 1);
    }

    private boolean hasBox(int box) {
        return in(0, box, boxes.size() - 1);
    }

    boolean exempt(int good, int a, int b) {
        return hasGood(good) && in(1, a, 9) && in(1, b, 9) && goods.get(good).exempt().add(key(a, b));
    }

    int box(int good, int amount) {
        needs(hasGood(good) && in(1, amount, 30000));
        allows(boxes.size() < 12);
        boxes.add(new Box());
        boxes.get(boxes.size() - 1).amounts.put(good, amount);
        return boxes.size() - 1;
    }

    int also(int box, int good, int amount) {
        needs(hasBox(box) && hasGood(good) && in(1, amount, 30000));
        Box it = boxes.get(box);
        needs(!it.amounts.containsKey(good));
        allows(it.place == null && it.amounts.size() < 4);
        it.amounts.put(good, amount);
        return it.amounts.size();
    }

    private boolean limited(Box box, int good) {
        return box.amounts.get(good) <= goods.get(good).limit();
    }

    int apart(int box, int other) {
        needs(hasBox(box) && hasBox(other) && box != other);
        return apart(boxes.get(box), boxes.get(other));
    }

    private int apart(Box box, Box other) {
        int strictest = 0;
        for (int one : box.amounts.keySet()) {
            for (int two : other.amounts.keySet()) {
                boolean away = limited(box, one) || limited(other, two);
                for (int a : goods.get(one).classes()) {
                    for (int b : goods.get(two).classes()) {
                        boolean exempt = goods.get(one).exempt().contains(key(a, b))
                                || goods.get(two).exempt().contains(key(a, b));
                        int rule = exempt ? 0 : rule(a, b);
                        strictest = Math.max(strictest, away && rule > 1 ? 1 : rule);
                    }
                }
            }
        }
        return strictest;
    }

    boolean ship(int box, int other, int cells) {
        int rule = apart(box, other);
        needs(in(0, cells, 100));
        return rule == 0 || cells >= 1 << rule - 1;
    }

    boolean most(int zone, int cls, int kilograms) {
        if (!in(0, zone, 3) || !in(1, cls, 9) || !in(0, kilograms, 100000)) {
            return false;
        }
        mosts.put(zone + ":" + cls, kilograms);
        return true;
    }

    int zone(int zone, int cls) {
        needs(in(0, zone, 3) && in(1, cls, 9));
        return boxes.stream().filter(b -> b.place != null && b.place.zone() == zone)
                .mapToInt(b -> amountOf(b, cls)).sum();
    }

    private int amountOf(Box box, int cls) {
        return box.amounts.entrySet().stream().filter(e -> goods.get(e.getKey()).classes().contains(cls))
                .mapToInt(Map.Entry::getValue).sum();
    }

    int put(int zone, int box, int x, int y) {
        needs(in(0, zone, 3) && hasBox(box) && in(0, x, 19) && in(0, y, 19));
        Box it = boxes.get(box);
        allows(it.place == null);
        if (missing(box) != 0) {
            return 16;
        }
        Place place = new Place(zone, x, y);
        if (boxes.stream().anyMatch(b -> place.equals(b.place))) {
            return 32;
        }
        for (int cls = 1; cls <= 9; cls++) {
            int own = amountOf(it, cls);
            if (own != 0 && own + zone(zone, cls) > mosts.getOrDefault(zone + ":" + cls, 100000)) {
                return 48 + cls;
            }
        }
        for (int other = 0; other < boxes.size(); other++) {
            if (bars(it, place, boxes.get(other))) {
                return 64 + other;
            }
        }
        it.place = place;
        return 0;
    }

    private boolean bars(Box box, Place place, Box other) {
        if (other.place == null || other.place.zone() != place.zone()) {
            return false;
        }
        int distance = Math.abs(place.x() - other.place.x()) + Math.abs(place.y() - other.place.y());
        return switch (apart(box, other)) {
            case 0 -> false;
            case 1 -> distance < 3;
            case 2 -> distance < 6;
            case 3 -> distance < 12;
            default -> true;
        };
    }

    int take(int box) {
        needs(hasBox(box));
        Place place = boxes.get(box).place;
        boxes.get(box).place = null;
        return place == null ? -1 : place.zone();
    }

    boolean paper(int box, int field) {
        return hasBox(box) && in(0, field, 4) && boxes.get(box).told.add(field);
    }

    int missing(int box) {
        needs(hasBox(box));
        Box it = boxes.get(box);
        Set<Integer> wanted = new HashSet<>(Set.of(0));
        for (int number : it.amounts.keySet()) {
            Good good = goods.get(number);
            if (good.group() == 1) {
                wanted.add(1);
            }
            if (good.marine()) {
                wanted.add(2);
            }
            if (good.temperature()) {
                wanted.add(3);
            }
            if (!limited(it, number)) {
                wanted.add(4);
            }
        }
        wanted.removeAll(it.told);
        return bits(wanted);
    }

    private static int bits(Set<Integer> fields) {
        return fields.stream().mapToInt(f -> 1 << f).sum();
    }

    int look(int box, int what) {
        if (!hasBox(box) || !in(0, what, 6)) {
            throw new IndexOutOfBoundsException();
        }
        Box it = boxes.get(box);
        return switch (what) {
            case 0 -> it.amounts.size();
            case 1 -> it.place == null ? -1 : it.place.zone();
            case 2 -> it.place == null ? -1 : it.place.x();
            case 3 -> it.place == null ? -1 : it.place.y();
            case 4 -> it.amounts.values().stream().mapToInt(a -> a).sum();
            case 5 -> (int) it.amounts.keySet().stream().filter(g -> limited(it, g)).count();
            default -> bits(it.told);
        };
    }

    int count(int what) {
        return switch (what) {
            case 0 -> text.length();
            case 1 -> goods.size();
            case 2 -> boxes.size();
            case 3 -> (int) boxes.stream().filter(b -> b.place != null).count();
            case 4 -> table.isEmpty() ? 0 : 1;
            default -> -1;
        };
    }
}
