import java.lang.reflect.Constructor;
import java.lang.reflect.Field;
import java.lang.reflect.Method;
import java.lang.reflect.Modifier;
import java.util.Arrays;
import java.util.Set;
import java.util.TreeSet;

/** The class has the constants, the constructor and the methods of the document, and no other member that can be seen. */
public final class ClaimRowsFace {
    private static final Set<String> FACE = new TreeSet<>(Arrays.asList(
        "int UNKNOWN", "int OUTSIDE", "int STATE", "int ROOM", "int WHO", "int TIME", "int LIMIT",
        "ClaimRows()",
        "int item(int, long, long, int, int)",
        "int pass(int, int, boolean)",
        "int table(int, int, long, int)",
        "int claim(int, int, int, int)",
        "int proof(int, int)",
        "int search(int, int, int)",
        "int answer(int, boolean)",
        "int tick(int)",
        "long sum(int)",
        "int limit(int, long)",
        "int decide(int, int)",
        "long share(int, int)",
        "int found(int)",
        "int back(int, boolean)",
        "int appeal(int)",
        "boolean paid(int, int)",
        "int about(int, int)",
        "int letter(int, int)",
        "long all(int)"));
    private static int wrong = 0;

    private static void due(String what, boolean holds) {
        if (!holds) {
            wrong++;
            System.out.println(what);
        }
    }

    public static void main(String[] args) {
        due("the class is public and final", Modifier.isPublic(ClaimRows.class.getModifiers())
            && Modifier.isFinal(ClaimRows.class.getModifiers()));
        Set<String> seen = new TreeSet<>();
        addFields(seen);
        addConstructors(seen);
        addMethods(seen);
        due("the face is " + seen + ", due is " + FACE, seen.equals(FACE));
        for (Class<?> inside : ClaimRows.class.getDeclaredClasses()) {
            due(inside.getName() + " is static and not public", Modifier.isStatic(inside.getModifiers())
                && !Modifier.isPublic(inside.getModifiers()) && !Modifier.isProtected(inside.getModifiers()));
        }
        System.out.println(wrong == 0 ? "the face is as due" : wrong + " faults");
        if (wrong != 0) {
            System.exit(1);
        }
    }

    private static void addFields(Set<String> seen) {
        for (Field field : ClaimRows.class.getDeclaredFields()) {
            int is = field.getModifiers();
            due(field + ": a static field is final", !Modifier.isStatic(is) || Modifier.isFinal(is));
            if (!Modifier.isPrivate(is)) {
                due(field + " is a public constant", Modifier.isPublic(is) && Modifier.isStatic(is));
                seen.add(field.getType().getName() + " " + field.getName());
            }
        }
    }

    private static void addConstructors(Set<String> seen) {
        for (Constructor<?> constructor : ClaimRows.class.getDeclaredConstructors()) {
            due(constructor + " is public", Modifier.isPublic(constructor.getModifiers()));
            seen.add("ClaimRows" + list(constructor.getParameterTypes()));
        }
    }

    private static void addMethods(Set<String> seen) {
        Set<String> names = new TreeSet<>();
        for (Method method : ClaimRows.class.getDeclaredMethods()) {
            if (!Modifier.isPrivate(method.getModifiers())) {
                due(method + " is public", Modifier.isPublic(method.getModifiers()));
                due(method + " is no static one", !Modifier.isStatic(method.getModifiers()));
                seen.add(method.getReturnType().getName() + " " + method.getName() + list(method.getParameterTypes()));
                names.add(method.getName());
            }
        }
        for (Method method : ClaimRows.class.getDeclaredMethods()) {
            due(method + " bears the name of a public one",
                !Modifier.isPrivate(method.getModifiers()) || !names.contains(method.getName()));
        }
    }

    private static String list(Class<?>[] types) {
        StringBuilder text = new StringBuilder("(");
        for (int i = 0; i < types.length; i++) {
            text.append(i == 0 ? "" : ", ").append(types[i].getName());
        }
        return text.append(")").toString();
    }
}
