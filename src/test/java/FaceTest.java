import java.lang.reflect.Constructor;
import java.lang.reflect.Field;
import java.lang.reflect.Member;
import java.lang.reflect.Method;
import java.lang.reflect.Modifier;
import java.util.ArrayList;
import java.util.Arrays;
import java.util.Collections;
import java.util.List;
import java.util.Set;
import java.util.TreeSet;

/** The class has the document's face, and no other member that can be seen from outside. */
public final class FaceTest {
    private static final String[] FACE = {
        "int addFact(int) IndexOutOfBoundsException IllegalStateException",
        "boolean toggleSource(int) IndexOutOfBoundsException",
        "boolean withdraw(int) IndexOutOfBoundsException",
        "boolean factStands(int) IndexOutOfBoundsException",
        "int facts()",
        "int claim(int,int) IllegalArgumentException IllegalStateException",
        "int skip()",
        "boolean rest(int,int) IndexOutOfBoundsException IllegalArgumentException",
        "boolean attack(int,int) IndexOutOfBoundsException IllegalArgumentException",
        "int claims()",
        "int playerOf(int) IndexOutOfBoundsException",
        "int turn()",
        "int bank(int) IndexOutOfBoundsException",
        "int stateOf(int) IndexOutOfBoundsException",
        "int stateByRounds(int) IndexOutOfBoundsException",
        "int score(int) IndexOutOfBoundsException",
        "int scoreWithout(int,int) IndexOutOfBoundsException",
        "int keyFact(int) IndexOutOfBoundsException",
        "int verdict()",
        "int close()",
        "int reputation(int) IndexOutOfBoundsException",
    };

    private static final Checks checks = new Checks();

    private static boolean isSeen(Member member) {
        return !member.isSynthetic() && !Modifier.isPrivate(member.getModifiers());
    }

    private static String names(Class<?>[] classes, String between) {
        List<String> names = new ArrayList<>();
        for (Class<?> one : classes) {
            names.add(one.getSimpleName());
        }
        return String.join(between, names);
    }

    private static String described(Method method) {
        String face = method.getReturnType().getSimpleName() + " " + method.getName()
                + "(" + names(method.getParameterTypes(), ",") + ")";
        String thrown = names(method.getExceptionTypes(), " ");
        return thrown.isEmpty() ? face : face + " " + thrown;
    }

    private static void methods() {
        List<String> seen = new ArrayList<>();
        Set<String> publicNames = new TreeSet<>();
        for (Method method : Quarrelboard.class.getDeclaredMethods()) {
            if (isSeen(method)) {
                seen.add(described(method));
                publicNames.add(method.getName());
                checks.due(method.getName() + " is public and of an object",
                        method.getModifiers(), Modifier.PUBLIC);
            }
        }
        List<String> want = new ArrayList<>(Arrays.asList(FACE));
        Collections.sort(seen);
        Collections.sort(want);
        checks.due("the methods", seen, want);
        for (Method method : Quarrelboard.class.getDeclaredMethods()) {
            checks.due("a private method bears the public name " + method.getName(),
                    !isSeen(method) && publicNames.contains(method.getName()), false);
        }
    }

    private static void constructors() {
        Constructor<?>[] all = Quarrelboard.class.getDeclaredConstructors();
        checks.due("the constructors", all.length, 1);
        checks.due("the constructor is public", all[0].getModifiers(), Modifier.PUBLIC);
        checks.due("the constructor's parameters", all[0].getParameterCount(), 0);
    }

    private static void constants() throws IllegalAccessException {
        Set<String> seen = new TreeSet<>();
        for (Field field : Quarrelboard.class.getDeclaredFields()) {
            if (isSeen(field)) {
                seen.add(field.getName() + " " + field.getType() + " " + field.get(null));
                checks.due(field.getName() + " is a public constant", field.getModifiers(),
                        Modifier.PUBLIC | Modifier.STATIC | Modifier.FINAL);
            }
        }
        checks.due("the constants", seen,
                new TreeSet<>(Arrays.asList("NONE int -1", "OPEN int 0", "IN int 1", "OUT int 2")));
    }

    private static void staticFieldsAreFinal(Class<?> one) {
        for (Field field : one.getDeclaredFields()) {
            if (Modifier.isStatic(field.getModifiers())) {
                checks.due(field + " is final", Modifier.isFinal(field.getModifiers()), true);
            }
        }
    }

    public static void main(String[] args) throws IllegalAccessException {
        checks.due("the class is public and final",
                Quarrelboard.class.getModifiers(), Modifier.PUBLIC | Modifier.FINAL);
        checks.due("the class stands above no other", Quarrelboard.class.getSuperclass(), Object.class);
        checks.due("the class has no interfaces", Quarrelboard.class.getInterfaces().length, 0);
        methods();
        constructors();
        constants();
        staticFieldsAreFinal(Quarrelboard.class);
        for (Class<?> inside : Quarrelboard.class.getDeclaredClasses()) {
            staticFieldsAreFinal(inside);
            checks.due(inside + " is static and not public",
                    Modifier.isStatic(inside.getModifiers())
                            && !Modifier.isPublic(inside.getModifiers())
                            && !Modifier.isProtected(inside.getModifiers()),
                    true);
        }
        checks.end();
    }
}
