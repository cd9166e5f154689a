import java.lang.reflect.Constructor;
import java.lang.reflect.Field;
import java.lang.reflect.Member;
import java.lang.reflect.Method;
import java.lang.reflect.Modifier;
import java.util.Arrays;
import java.util.TreeSet;

/** The face: just what the document writes out, and no other member that is not private. */
public final class FaceTest {
    private static final String[] METHODS = {
        "house(int,int)", "flow(int,int)", "lock(int,boolean)", "read(int)", "change(int)", "days(int)", "set(int,int)",
        "houseOf(int,int)", "at(int,int)", "next(int,int)", "ledger(int,int)", "why(int)", "ifRead(int,int)", "wronged(int)",
        "refundIn(int)", "ifDays(int,int)", "mean()", "count(int)", "undo()", "type(int)", "clearText()", "fault(int)", "play()"};
    private static final String[] CONSTANTS = {
        "INVALID_ARGUMENT=-1000001", "NOT_POSSIBLE=-1000002", "LIMIT_REACHED=-1000003", "NOT_FOUND=-1000004"};

    private static int wrong;

    public static void main(String[] args) throws IllegalAccessException {
        Class<?> face = WrongedMeters.class;
        alike("the class", Modifier.toString(face.getModifiers()), "public final");
        alike("its superclass", face.getSuperclass().getName(), "java.lang.Object");
        alike("its interfaces", "" + face.getInterfaces().length, "0");
        alike("methods", methods(face).toString(), new TreeSet<>(Arrays.asList(METHODS)).toString());
        alike("constants", constants(face).toString(), new TreeSet<>(Arrays.asList(CONSTANTS)).toString());
        alike("constructors", constructors(face).toString(), "[public ()]");
        insideClasses(face);
        System.out.println("FaceTest: " + (wrong == 0 ? "the face is the document's" : wrong + " differences"));
        if (wrong != 0) System.exit(1);
    }

    private static void alike(String what, String is, String due) {
        if (!is.equals(due)) {
            wrong++;
            System.out.println("FaceTest, " + what + ": " + is + "\n  due: " + due);
        }
    }

    private static boolean isOpen(Member member) {
        return !Modifier.isPrivate(member.getModifiers());
    }

    private static String types(Class<?>[] types) {
        StringBuilder text = new StringBuilder();
        for (Class<?> type : types) text.append(text.length() == 0 ? "" : ",").append(type.getName());
        return "(" + text + ")";
    }

    private static TreeSet<String> methods(Class<?> face) {
        TreeSet<String> open = new TreeSet<>();
        TreeSet<String> closed = new TreeSet<>();
        for (Method method : face.getDeclaredMethods()) {
            String name = method.getName();
            if (isOpen(method)) {
                open.add(name + types(method.getParameterTypes()));
                alike("modifiers of " + name, Modifier.toString(method.getModifiers()), "public");
                alike("type of " + name, method.getReturnType().getName(), "int");
            } else {
                closed.add(name);
            }
        }
        for (String of : METHODS) {
            alike("private methods of the name " + of, "" + closed.contains(of.substring(0, of.indexOf('('))), "false");
        }
        return open;
    }

    private static TreeSet<String> constants(Class<?> face) throws IllegalAccessException {
        TreeSet<String> open = new TreeSet<>();
        for (Field field : face.getDeclaredFields()) {
            if (Modifier.isStatic(field.getModifiers())) {
                alike(field.getName() + " is final", "" + Modifier.isFinal(field.getModifiers()), "true");
            }
            if (isOpen(field)) {
                alike("modifiers of " + field.getName(), Modifier.toString(field.getModifiers()), "public static final");
                open.add(field.getName() + "=" + field.getInt(null));
            }
        }
        return open;
    }

    private static TreeSet<String> constructors(Class<?> face) {
        TreeSet<String> all = new TreeSet<>();
        for (Constructor<?> constructor : face.getDeclaredConstructors()) {
            all.add(Modifier.toString(constructor.getModifiers()) + " " + types(constructor.getParameterTypes()));
        }
        return all;
    }

    /** The bounds of LANGUAGE.md, rules 1, 2 and 11, on the classes inside. */
    private static void insideClasses(Class<?> face) {
        Class<?>[] inside = face.getDeclaredClasses();
        alike("at most 12 classes", "" + (inside.length < 12), "true");
        for (Class<?> one : inside) {
            int modifiers = one.getModifiers();
            alike(one.getName() + " is static", "" + Modifier.isStatic(modifiers), "true");
            alike(one.getName() + " is hidden", "" + (Modifier.isPublic(modifiers) || Modifier.isProtected(modifiers)), "false");
            int fields = 0;
            for (Field field : one.getDeclaredFields()) {
                boolean isStatic = Modifier.isStatic(field.getModifiers());
                fields += isStatic ? 0 : 1;
                alike(field.getName() + " is not static, or final", "" + (isStatic && !Modifier.isFinal(field.getModifiers())), "false");
            }
            alike(one.getName() + " has at most 20 fields", "" + (fields <= 20), "true");
        }
    }
}
