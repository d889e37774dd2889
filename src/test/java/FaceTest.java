import java.lang.reflect.Field;
import java.lang.reflect.Method;
import java.lang.reflect.Modifier;
import java.util.Arrays;
import java.util.Set;
import java.util.TreeSet;

/** The class has the document's face and no other. */
final class FaceTest {

    private static final String INDEX = "IndexOutOfBoundsException";
    private static final String ARGUMENT = " IllegalArgumentException";
    private static final String STATE = " IllegalStateException";
    private static final String UNSUPPORTED = " UnsupportedOperationException";
    private static final String ELEMENT = " NoSuchElementException";

    private static final String[] FACE = {
        "int addBody(int):" + ARGUMENT + STATE,
        "int addCube(int, int): " + INDEX + ARGUMENT + UNSUPPORTED + STATE,
        "int takeCube(int, int): " + INDEX + ARGUMENT + ELEMENT + UNSUPPORTED,
        "int cubes(int): " + INDEX, "int skin(int): " + INDEX,
        "boolean areAlike(int, int): " + INDEX, "boolean areMirrored(int, int): " + INDEX,
        "int kinds():", "int all(int):" + ARGUMENT, "int addSheet():" + STATE,
        "boolean set(int, int, boolean): " + INDEX + ARGUMENT,
        "int squares(int): " + INDEX, "int edge(int): " + INDEX, "boolean isOne(int): " + INDEX,
        "boolean areLike(int, int): " + INDEX, "int ways(int): " + INDEX, "boolean folds(int): " + INDEX,
        "int opposite(int, int): " + INDEX + ARGUMENT + UNSUPPORTED + ELEMENT, "int cubeAdds(int): " + INDEX,
        "int depth(int, int, int): " + INDEX + ARGUMENT + UNSUPPORTED + ELEMENT,
        "int fold(int, int, int): " + INDEX + ARGUMENT + UNSUPPORTED + ELEMENT,
        "int addBoard():" + STATE, "int fits(int, int): " + INDEX + ELEMENT,
        "int lay(int, int): " + INDEX + UNSUPPORTED, "int free(int): " + INDEX,
        "boolean isFree(int, int): " + INDEX + ARGUMENT, "int cut(int): " + INDEX + UNSUPPORTED, "int sharpen():",
        "int put(int):" + ARGUMENT, "int roll(char):" + ARGUMENT + UNSUPPORTED, "int below():", "int onTop():",
        "int rolls(int, int):" + ARGUMENT, "int patent(int): " + INDEX + UNSUPPORTED,
        "int patentOf(int): " + INDEX + ELEMENT,
        "int order(int, int): " + INDEX + ARGUMENT + UNSUPPORTED + STATE, "int make():" + ELEMENT,
        "long earned():", "long checksum():", "float usedShare(): ArithmeticException",
        "double meanSkin(): ArithmeticException", "boolean isSound():",
    };

    private FaceTest() {
    }

    static void run(Check check) {
        check.promise(0);
        Set<String> found = new TreeSet<>();
        for (Method method : CubefoldWorks.class.getDeclaredMethods()) {
            if (!Modifier.isPrivate(method.getModifiers())) {
                found.add(told(method));
            }
        }
        check.due("the methods of the face", new TreeSet<>(Arrays.asList(FACE)), () -> found);
        check.due("public and final", Modifier.PUBLIC | Modifier.FINAL, CubefoldWorks.class::getModifiers);
        check.due("one public constructor", "[public CubefoldWorks()]",
                () -> Arrays.toString(CubefoldWorks.class.getDeclaredConstructors()));
        check.due("no other fields than private ones", true, () -> Arrays.stream(
                CubefoldWorks.class.getDeclaredFields()).allMatch(field -> Modifier.isPrivate(field.getModifiers())));
        rules(check);
    }

    /** Rules 1, 2 and 5 of LANGUAGE.md, as far as the compiled classes tell them. */
    private static void rules(Check check) {
        Set<String> publicNames = new TreeSet<>();
        for (Method method : CubefoldWorks.class.getMethods()) {
            publicNames.add(method.getName());
        }
        for (Class<?> inside : CubefoldWorks.class.getDeclaredClasses()) {
            String name = inside.getSimpleName();
            check.due(name + " is static", true, () -> Modifier.isStatic(inside.getModifiers()));
            check.due(name + " is not public or protected", 0,
                    () -> inside.getModifiers() & (Modifier.PUBLIC | Modifier.PROTECTED));
            for (Method method : inside.getDeclaredMethods()) {
                check.due(name + " has a name of its own for " + method.getName(), false,
                        () -> publicNames.contains(method.getName()));
            }
            staticFieldsAreFinal(check, inside);
        }
        staticFieldsAreFinal(check, CubefoldWorks.class);
        check.due("twelve classes at most", true, () -> CubefoldWorks.class.getDeclaredClasses().length <= 11);
    }

    private static void staticFieldsAreFinal(Check check, Class<?> in) {
        for (Field field : in.getDeclaredFields()) {
            int modifiers = field.getModifiers();
            check.due(in.getSimpleName() + "." + field.getName() + " is final if static", true,
                    () -> !Modifier.isStatic(modifiers) || Modifier.isFinal(modifiers));
        }
    }

    private static String told(Method method) {
        StringBuilder told = new StringBuilder();
        if (!Modifier.isPublic(method.getModifiers()) || Modifier.isStatic(method.getModifiers())) {
            told.append("not public, or static: ");
        }
        told.append(method.getReturnType().getSimpleName()).append(' ').append(method.getName()).append('(');
        String separator = "";
        for (Class<?> type : method.getParameterTypes()) {
            told.append(separator).append(type.getSimpleName());
            separator = ", ";
        }
        told.append("):");
        for (Class<?> type : method.getExceptionTypes()) {
            told.append(' ').append(type.getSimpleName());
        }
        return told.toString();
    }
}
