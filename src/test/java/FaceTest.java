import java.lang.reflect.Constructor;
import java.lang.reflect.Field;
import java.lang.reflect.Method;
import java.lang.reflect.Modifier;
import java.util.ArrayList;
import java.util.List;
import java.util.TreeSet;

/** The public face is the document's and nothing else shows (LANGUAGE.md, rules 1, 2 and 5). */
public final class FaceTest {
    private static final Expect EXPECT = new Expect("FaceTest");

    private static final List<String> FACE = List.of(
            "boolean rule(int, int, int, boolean, int) IllegalArgumentException",
            "boolean drop(int, int) IllegalArgumentException",
            "boolean input(int, int) IllegalArgumentException",
            "int steps()", "boolean halts()", "int run(int, int)", "int dominoes()",
            "int domino(int, boolean, int)", "int way(int) IllegalStateException", "int lay(int)",
            "int layWay() IllegalStateException", "void clear()", "int tray()", "int back()",
            "boolean type(long)", "int trees()", "int search(int)", "int looked()");

    public static void main(String[] args) {
        methods();
        membersOfClass();
        nestedClasses();
        EXPECT.end();
    }

    private static void methods() {
        TreeSet<String> seen = new TreeSet<>();
        TreeSet<String> publicNames = new TreeSet<>();
        TreeSet<String> privateNames = new TreeSet<>();
        for (Method method : PostChain.class.getDeclaredMethods()) {
            if (Modifier.isPublic(method.getModifiers())) {
                seen.add(signature(method));
                publicNames.add(method.getName());
            } else {
                EXPECT.yes(method + " is private", Modifier.isPrivate(method.getModifiers()));
                privateNames.add(method.getName());
            }
        }
        EXPECT.same("public methods", seen.toString(), new TreeSet<>(FACE).toString());
        privateNames.retainAll(publicNames);
        EXPECT.same("private methods with public names", privateNames.toString(), "[]");
    }

    private static String signature(Method method) {
        List<String> types = new ArrayList<>();
        for (Class<?> type : method.getParameterTypes()) {
            types.add(type.getSimpleName());
        }
        StringBuilder text = new StringBuilder(method.getReturnType().getSimpleName());
        text.append(' ').append(method.getName()).append('(').append(String.join(", ", types)).append(')');
        for (Class<?> type : method.getExceptionTypes()) {
            text.append(' ').append(type.getSimpleName());
        }
        return text.toString();
    }

    private static void membersOfClass() {
        EXPECT.yes("the class is public", Modifier.isPublic(PostChain.class.getModifiers()));
        EXPECT.yes("the class is final", Modifier.isFinal(PostChain.class.getModifiers()));
        Constructor<?>[] constructors = PostChain.class.getDeclaredConstructors();
        EXPECT.same("constructors", constructors.length, 1);
        EXPECT.same("constructor", constructors[0].toString(), "public PostChain()");
        for (Field field : PostChain.class.getDeclaredFields()) {
            int modifiers = field.getModifiers();
            boolean constant = field.getName().equals("NONE");
            EXPECT.same(field + " is public", Modifier.isPublic(modifiers) ? 1 : 0, constant ? 1 : 0);
            EXPECT.yes(field + " is private or NONE", constant || Modifier.isPrivate(modifiers));
            EXPECT.yes(field + " is final if static", Modifier.isFinal(modifiers) || !Modifier.isStatic(modifiers));
        }
    }

    private static void nestedClasses() {
        Class<?>[] nested = PostChain.class.getDeclaredClasses();
        EXPECT.yes("at most twelve classes", nested.length < 12);
        for (Class<?> one : nested) {
            int modifiers = one.getModifiers();
            EXPECT.yes(one + " is static", Modifier.isStatic(modifiers));
            EXPECT.no(one + " is public or protected",
                    Modifier.isPublic(modifiers) || Modifier.isProtected(modifiers));
            for (Field field : one.getDeclaredFields()) {
                EXPECT.yes(field + " is final if static",
                        Modifier.isFinal(field.getModifiers()) || !Modifier.isStatic(field.getModifiers()));
            }
        }
    }
}
