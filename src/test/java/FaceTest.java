import java.lang.reflect.Constructor;
import java.lang.reflect.Field;
import java.lang.reflect.Member;
import java.lang.reflect.Method;
import java.lang.reflect.Modifier;
import java.util.Arrays;
import java.util.Set;
import java.util.TreeSet;

/** The class has the face of the document and nothing else that can be seen (LANGUAGE.md, rule 1). */
final class FaceTest {
    private static final String INDEX = " throws IndexOutOfBoundsException";
    private static final String ARGUMENT = " throws IllegalArgumentException";
    private static final String STATE = " throws IllegalStateException";
    private static final String INDEX_STATE = INDEX + ", IllegalStateException";

    private static final String[] FACE = {
        "int addExpression(int)" + ARGUMENT + ", IllegalStateException",
        "int addBlock()" + STATE,
        "int addEdge(int, int)" + INDEX + ", IllegalArgumentException, IllegalStateException",
        "int compute(int, int)" + INDEX_STATE,
        "int use(int, int)" + INDEX_STATE,
        "int assign(int, int)" + INDEX_STATE,
        "int drop(int)" + INDEX_STATE,
        "int blockCount()",
        "int edgeCount()",
        "int size(int)" + INDEX,
        "int instruction(int, int)" + INDEX,
        "int ends(int)" + INDEX,
        "int kept(int)" + INDEX,
        "int early(int)" + INDEX,
        "int late(int)" + INDEX,
        "int needed(int, boolean)" + INDEX,
        "int there(int, boolean)" + INDEX,
        "int earliest(int)" + INDEX,
        "int delayedOn(int)" + INDEX,
        "int delayedAt(int)" + INDEX,
        "int insertions(int)" + INDEX,
        "int deletions(int)" + INDEX,
        "int move()" + STATE,
        "int walk(long, int)" + ARGUMENT,
        "int computed(int)" + INDEX,
        "int misses()",
        "int lastBlock()",
        "int heldFor(int)" + INDEX,
        "long digest()",
    };

    private static final Checks CHECKS = new Checks("FaceTest");

    public static void main(String[] args) {
        CHECKS.same("modifiers", Modifier.PUBLIC | Modifier.FINAL, CodeMover.class.getModifiers());
        checkConstructors();
        checkMethods();
        checkFields(CodeMover.class);
        for (Class<?> inside : CodeMover.class.getDeclaredClasses()) {
            checkNested(inside);
        }
        CHECKS.end();
    }

    private static void checkConstructors() {
        Constructor<?>[] all = CodeMover.class.getDeclaredConstructors();
        CHECKS.same("constructors", 1, all.length);
        CHECKS.same("parameters of the constructor", 0, all[0].getParameterCount());
        CHECKS.holds("the constructor is public", Modifier.isPublic(all[0].getModifiers()));
    }

    private static void checkMethods() {
        Set<String> due = new TreeSet<>(Arrays.asList(FACE));
        Set<String> got = new TreeSet<>();
        Set<String> publicNames = new TreeSet<>();
        for (Method method : CodeMover.class.getDeclaredMethods()) {
            if (!Modifier.isPrivate(method.getModifiers())) {
                got.add(describe(method));
                publicNames.add(method.getName());
                CHECKS.same(method + ": modifiers", Modifier.PUBLIC, method.getModifiers());
            }
        }
        for (Method method : CodeMover.class.getDeclaredMethods()) {
            if (Modifier.isPrivate(method.getModifiers())) {
                CHECKS.holds(method + " has a name of its own",
                        !publicNames.contains(method.getName()));
            }
        }
        CHECKS.holds("the methods are " + due + ", not " + got, due.equals(got));
    }

    private static String describe(Method method) {
        StringBuilder text = new StringBuilder();
        text.append(method.getReturnType().getSimpleName()).append(' ').append(method.getName());
        text.append('(').append(list(method.getParameterTypes())).append(')');
        if (method.getExceptionTypes().length > 0) {
            text.append(" throws ").append(list(method.getExceptionTypes()));
        }
        return text.toString();
    }

    private static String list(Class<?>[] types) {
        StringBuilder text = new StringBuilder();
        for (Class<?> type : types) {
            text.append(text.length() == 0 ? "" : ", ").append(type.getSimpleName());
        }
        return text.toString();
    }

    private static void checkFields(Class<?> type) {
        for (Field field : type.getDeclaredFields()) {
            if (type == CodeMover.class) {
                CHECKS.holds(field + " is private", Modifier.isPrivate(field.getModifiers()));
            }
            if (Modifier.isStatic(field.getModifiers())) {
                CHECKS.holds(field + " is final", Modifier.isFinal(field.getModifiers()));
            }
        }
    }

    private static void checkNested(Class<?> inside) {
        int modifiers = inside.getModifiers();
        CHECKS.holds(inside + " is static", Modifier.isStatic(modifiers));
        CHECKS.holds(inside + " is not public", !Modifier.isPublic(modifiers));
        CHECKS.holds(inside + " is not protected", !Modifier.isProtected(modifiers));
        checkFields(inside);
        for (Method method : inside.getDeclaredMethods()) {
            checkNotFace(method);
        }
    }

    private static void checkNotFace(Member member) {
        for (String line : FACE) {
            CHECKS.holds(member + " has a name of its own",
                    !line.contains(" " + member.getName() + "("));
        }
    }
}
