import java.lang.reflect.Constructor;
import java.lang.reflect.Field;
import java.lang.reflect.Method;
import java.lang.reflect.Modifier;
import java.util.Set;
import java.util.TreeSet;

/** The face is the document's and nothing beside it can be seen from outside. */
public final class FaceTest {
    private static final Set<String> METHODS = Set.of(
            "public boolean DangerTables.sign(int)",
            "public int DangerTables.read()",
            "public int DangerTables.rule(int,int) throws java.lang.IllegalArgumentException",
            "public int DangerTables.good(int,int,int,int,boolean,boolean)"
                    + " throws java.lang.IllegalArgumentException,java.lang.IllegalStateException",
            "public boolean DangerTables.exempt(int,int,int)",
            "public int DangerTables.box(int,int)"
                    + " throws java.lang.IllegalArgumentException,java.lang.IllegalStateException",
            "public int DangerTables.also(int,int,int)"
                    + " throws java.lang.IllegalArgumentException,java.lang.IllegalStateException",
            "public int DangerTables.apart(int,int) throws java.lang.IllegalArgumentException",
            "public boolean DangerTables.ship(int,int,int) throws java.lang.IllegalArgumentException",
            "public boolean DangerTables.most(int,int,int)",
            "public int DangerTables.zone(int,int) throws java.lang.IllegalArgumentException",
            "public int DangerTables.put(int,int,int,int)"
                    + " throws java.lang.IllegalArgumentException,java.lang.IllegalStateException",
            "public int DangerTables.take(int) throws java.lang.IllegalArgumentException",
            "public boolean DangerTables.paper(int,int)",
            "public int DangerTables.missing(int) throws java.lang.IllegalArgumentException",
            "public int DangerTables.look(int,int) throws java.lang.IndexOutOfBoundsException",
            "public int DangerTables.count(int)");

    public static void main(String[] args) {
        Check check = new Check();
        members(check);
        privateNames(check);
        check.is("NONE", DangerTables.NONE, -1);
        check.is("final", Modifier.isFinal(DangerTables.class.getModifiers()), true);
        check.end();
    }

    private static void members(Check check) {
        Set<String> visible = new TreeSet<>();
        for (Method method : DangerTables.class.getDeclaredMethods()) {
            if (!Modifier.isPrivate(method.getModifiers())) {
                visible.add(method.toString());
            }
        }
        if (!visible.equals(METHODS)) {
            check.tell("the visible methods are " + visible);
        }
        for (Field field : DangerTables.class.getDeclaredFields()) {
            boolean none = field.toString().equals("public static final int DangerTables.NONE");
            if (!Modifier.isPrivate(field.getModifiers()) && !none) {
                check.tell("visible: " + field);
            }
        }
        Constructor<?>[] constructors = DangerTables.class.getDeclaredConstructors();
        check.is("constructors", constructors.length, 1);
        check.is("public constructor", Modifier.isPublic(constructors[0].getModifiers()), true);
    }

    private static void privateNames(Check check) {
        Set<String> face = new TreeSet<>();
        for (Method method : DangerTables.class.getMethods()) {
            face.add(method.getName());
        }
        for (Method method : DangerTables.class.getDeclaredMethods()) {
            if (Modifier.isPrivate(method.getModifiers()) && face.contains(method.getName())) {
                check.tell("a private method bears a public name: " + method);
            }
        }
    }
}
