import java.lang.reflect.Constructor;
import java.lang.reflect.Field;
import java.lang.reflect.Member;
import java.lang.reflect.Method;
import java.lang.reflect.Modifier;
import java.util.ArrayList;
import java.util.Arrays;
import java.util.List;
import java.util.TreeSet;

/** The document's public face and nothing beside it, and the README's example. */
public final class FaceTest {
    private static final List<String> METHODS = List.of(
        "int move(int, int)", "int capture(int, int)", "int play(int)", "int setUp(int, int)", "int turn()",
        "int begin()", "int setLimit(int)", "int type(char)", "int clearText()", "int perform()", "int stopped(int)",
        "int undo()", "int keep()", "int restore()", "int point(int, int)", "int way(int, int, int)",
        "int circuit(int, int)", "int reason(int, int, boolean)", "int possible(int)", "int look(int)",
        "int best(int)", "int count(int)");
    private static final List<String> CONSTANTS = List.of(
        "int UNKNOWN", "int BAD_VALUE", "int FULL", "int NOT_POSSIBLE", "int NONE", "int NO_MOVE");

    private FaceTest() {
    }

    public static void main(String[] args) {
        Class<?> face = LoopCaptures.class;
        due("modifiers of the class", Modifier.toString(face.getModifiers()), "public final");
        due("package", face.getPackageName(), "");
        methods(face);
        constants(face);
        constructors(face);
        classesInside(face);
        example();
        Check.finish("FaceTest");
    }

    private static void due(String what, String got, String want) {
        Check.due(what + ": " + got, got.equals(want) ? 1 : 0, 1);
    }

    private static boolean isHidden(Member member) {
        return Modifier.isPrivate(member.getModifiers()) || member.isSynthetic();
    }

    private static String signature(Method method) {
        List<String> types = new ArrayList<>();
        for (Class<?> type : method.getParameterTypes()) {
            types.add(type.getSimpleName());
        }
        return method.getReturnType() + " " + method.getName() + "(" + String.join(", ", types) + ")";
    }

    private static void methods(Class<?> face) {
        List<String> seen = new ArrayList<>();
        for (Method method : face.getDeclaredMethods()) {
            if (!isHidden(method)) {
                seen.add(signature(method));
                due("modifiers of " + method.getName(), Modifier.toString(method.getModifiers()), "public");
                Check.due("exceptions of " + method.getName(), method.getExceptionTypes().length, 0);
            }
        }
        same("methods", seen, METHODS);
    }

    private static void constants(Class<?> face) {
        List<String> seen = new ArrayList<>();
        for (Field field : face.getDeclaredFields()) {
            if (!isHidden(field)) {
                seen.add(field.getType() + " " + field.getName());
                due("modifiers of " + field.getName(), Modifier.toString(field.getModifiers()), "public static final");
            }
        }
        same("constants", seen, CONSTANTS);
    }

    private static void constructors(Class<?> face) {
        Constructor<?>[] all = face.getDeclaredConstructors();
        Check.due("constructors", all.length, 1);
        due("modifiers of the constructor", Modifier.toString(all[0].getModifiers()), "public");
        Check.due("parameters of the constructor", all[0].getParameterCount(), 0);
    }

    private static void same(String what, List<String> got, List<String> want) {
        due(what, new TreeSet<>(got).toString(), new TreeSet<>(want).toString());
        Check.due("number of " + what, got.size(), want.size());
    }

    /** No class inside is public, and no private method bears the name of a public one. */
    private static void classesInside(Class<?> face) {
        TreeSet<String> names = new TreeSet<>();
        for (String signature : METHODS) {
            names.add(signature.substring(4, signature.indexOf('(')));
        }
        List<Class<?>> all = new ArrayList<>(Arrays.asList(face.getDeclaredClasses()));
        all.add(face);
        for (Class<?> one : all) {
            int modifiers = one.getModifiers();
            boolean shows = Modifier.isPublic(modifiers) || Modifier.isProtected(modifiers);
            Check.due(one.getName() + " shows", shows && one != face ? 1 : 0, 0);
            Check.due(one.getName() + " is static", Modifier.isStatic(modifiers) || one == face ? 1 : 0, 1);
            for (Method method : one.getDeclaredMethods()) {
                boolean taken = Modifier.isPrivate(method.getModifiers()) && names.contains(method.getName());
                Check.due(one.getName() + "." + method.getName() + " is private and named as a public one",
                    taken ? 1 : 0, 0);
            }
        }
    }

    private static void example() {
        LoopCaptures game = new LoopCaptures();
        Check.due("README: possible(0)", game.possible(0), 612);
        Check.due("README: move(6, 12)", game.move(6, 12), 1);
        Check.due("README: play(2)", game.play(2), 2418);
        for (char c : "a3-a2".toCharArray()) {
            game.type(c);
        }
        Check.due("README: perform()", game.perform(), 1);
        Check.due("README: undo()", game.undo(), 2);
        Check.due("README: way(6, 24, 0)", game.way(6, 24, 0), LoopCaptures.NONE);
        Check.due("README: move(6, 6)", game.move(6, 6), LoopCaptures.NO_MOVE - 2);
    }
}
