import java.lang.reflect.Constructor;
import java.lang.reflect.Field;
import java.lang.reflect.Method;
import java.lang.reflect.Modifier;
import java.util.Arrays;
import java.util.Set;
import java.util.TreeSet;

/** The public face: the constants, the constructor and the methods as printed, and nothing more. */
public final class FaceTest {
    private static final String[] METHODS = {
        "int setSpeed(int,int)", "int setWeight(int,int)", "int setNumber(int,int)", "int call()",
        "int serve()", "int pass(int,int)", "int readBeams()", "int type(char)", "int clearText()",
        "int undo()", "int keep()", "int restore()", "float place()", "float speed(int)",
        "float weight(int)", "float score(int)", "int number(int)", "int door(int)", "int thing(int)",
        "int judged(int,int)", "int shutsIn()", "float placeIn(int,int)", "int count(int)",
    };
    private static final String[] CONSTANTS = {"UNKNOWN", "BAD_VALUE", "FULL", "NOT_POSSIBLE", "NONE"};

    public static void main(String[] args) {
        constants();
        methods();
        classAndConstructor();
        classesInside();
        Checks.finish("FaceTest");
    }

    private static void constants() {
        Checks.due("UNKNOWN", LiftBeams.UNKNOWN, -1);
        Checks.due("BAD_VALUE", LiftBeams.BAD_VALUE, -2);
        Checks.due("FULL", LiftBeams.FULL, -3);
        Checks.due("NOT_POSSIBLE", LiftBeams.NOT_POSSIBLE, -4);
        Checks.due("NONE", LiftBeams.NONE, -5);
        Set<String> found = new TreeSet<>();
        for (Field field : LiftBeams.class.getDeclaredFields()) {
            if (!Modifier.isPrivate(field.getModifiers())) {
                found.add(field.getName());
                Checks.due(field + " is public static final", field.getModifiers(),
                    Modifier.PUBLIC | Modifier.STATIC | Modifier.FINAL);
            }
        }
        same("the constants", found, CONSTANTS);
    }

    private static void methods() {
        Set<String> found = new TreeSet<>();
        Set<String> namesOfPublic = new TreeSet<>();
        for (Method method : LiftBeams.class.getDeclaredMethods()) {
            if (!Modifier.isPrivate(method.getModifiers()) && !method.isSynthetic()) {
                found.add(written(method));
                namesOfPublic.add(method.getName());
                Checks.due(method + " is public", method.getModifiers(), Modifier.PUBLIC);
            }
        }
        for (Method method : LiftBeams.class.getDeclaredMethods()) {
            boolean hidden = Modifier.isPrivate(method.getModifiers());
            Checks.due(method + " bears a public name", hidden && namesOfPublic.contains(method.getName()) ? 1 : 0, 0);
        }
        same("the methods", found, METHODS);
    }

    private static void classAndConstructor() {
        Checks.due("the class is public final", LiftBeams.class.getModifiers(), Modifier.PUBLIC | Modifier.FINAL);
        Constructor<?>[] constructors = LiftBeams.class.getDeclaredConstructors();
        Checks.due("the number of constructors", constructors.length, 1);
        Checks.due("the constructor is public", constructors[0].getModifiers(), Modifier.PUBLIC);
        Checks.due("the parameters of the constructor", constructors[0].getParameterCount(), 0);
    }

    // LANGUAGE.md, rule 1: "the classes inside it, which are private or package-visible and static"
    private static void classesInside() {
        for (Class<?> inside : LiftBeams.class.getDeclaredClasses()) {
            int seen = inside.getModifiers() & (Modifier.PUBLIC | Modifier.PROTECTED | Modifier.STATIC);
            Checks.due(inside + " is static, and not seen from outside", seen, Modifier.STATIC);
        }
        Checks.due("the superclass is Object alone", LiftBeams.class.getSuperclass() == Object.class ? 1 : 0, 1);
        Checks.due("the interfaces", LiftBeams.class.getInterfaces().length, 0);
    }

    private static String written(Method method) {
        StringBuilder parameters = new StringBuilder();
        for (Class<?> type : method.getParameterTypes()) {
            parameters.append(parameters.length() == 0 ? "" : ",").append(type.getName());
        }
        return method.getReturnType().getName() + " " + method.getName() + "(" + parameters + ")";
    }

    private static void same(String what, Set<String> found, String[] wanted) {
        Set<String> want = new TreeSet<>(Arrays.asList(wanted));
        Checks.due(what + " are as printed (found " + found + ")", found.equals(want) ? 1 : 0, 1);
    }
}
