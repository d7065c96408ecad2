import java.lang.reflect.Constructor;
import java.lang.reflect.Field;
import java.lang.reflect.Method;
import java.lang.reflect.Modifier;
import java.util.Arrays;
import java.util.Set;
import java.util.TreeSet;
import java.util.stream.Collectors;

/** The face of the document, and the rules of LANGUAGE.md that can be read from the compiled classes. */
public final class FaceTest {
    private static final String[] FACE = {
        "int insert(int) IllegalArgumentException UnsupportedOperationException IllegalStateException",
        "int remove(int) NoSuchElementException IllegalStateException",
        "int goBack(int) IndexOutOfBoundsException IllegalStateException",
        "int versions()",
        "int keys(int) IndexOutOfBoundsException",
        "boolean has(int,int) IndexOutOfBoundsException",
        "int pages(int) IndexOutOfBoundsException",
        "int levels(int) IndexOutOfBoundsException",
        "int madeIn(int,int) IndexOutOfBoundsException NoSuchElementException",
        "int sharedWith(int,int) IndexOutOfBoundsException",
        "boolean hasDoor(int,int,char) IndexOutOfBoundsException NoSuchElementException IllegalArgumentException",
        "int behind(int,int,char) IndexOutOfBoundsException NoSuchElementException IllegalArgumentException"
                + " UnsupportedOperationException",
        "int doors(int,int) IndexOutOfBoundsException NoSuchElementException",
        "int distance(int,int,int) IndexOutOfBoundsException NoSuchElementException",
        "int nameLength(char) IllegalArgumentException",
        "int addPupil(int) NoSuchElementException IllegalStateException",
        "int step(int,char) IndexOutOfBoundsException IllegalArgumentException NoSuchElementException"
                + " UnsupportedOperationException IllegalStateException",
        "int whereIs(int) IndexOutOfBoundsException NoSuchElementException",
        "boolean mark(int) IndexOutOfBoundsException NoSuchElementException",
        "int marks(int) IndexOutOfBoundsException",
        "int markAt(int,int) IndexOutOfBoundsException",
        "int wipe(int,int) IndexOutOfBoundsException",
        "char hint(int,int) IndexOutOfBoundsException NoSuchElementException",
        "int hints(int) IndexOutOfBoundsException",
        "int steps(int) IndexOutOfBoundsException",
        "char doorAt(int,int) IndexOutOfBoundsException",
        "int versionAt(int,int) IndexOutOfBoundsException",
        "int addTask(int,int,int) IllegalArgumentException IllegalStateException",
        "char task(int) IndexOutOfBoundsException",
        "int doneBy(int) IndexOutOfBoundsException NoSuchElementException",
        "boolean hasBegun(int,int) IndexOutOfBoundsException",
        "int points(int) IndexOutOfBoundsException",
        "int grade(int) IndexOutOfBoundsException",
        "float turnShare() NoSuchElementException",
        "double meanFill()",
        "boolean isSound()",
    };

    private FaceTest() {
    }

    public static void main(String[] args) {
        face();
        membersOfTheClass();
        classesInside();
        Check.end();
    }

    private static String signature(Method method) {
        String types = Arrays.stream(method.getParameterTypes()).map(Class::getSimpleName)
                .collect(Collectors.joining(","));
        String thrown = Arrays.stream(method.getExceptionTypes()).map(type -> " " + type.getSimpleName())
                .collect(Collectors.joining());
        return method.getReturnType().getSimpleName() + " " + method.getName() + "(" + types + ")" + thrown;
    }

    private static Set<Method> methodsOf(Class<?> type, boolean publicOnes) {
        return Arrays.stream(type.getDeclaredMethods())
                .filter(method -> Modifier.isPublic(method.getModifiers()) == publicOnes)
                .collect(Collectors.toSet());
    }

    private static void face() {
        Set<String> got = methodsOf(Pagemaze.class, true).stream().map(FaceTest::signature)
                .collect(Collectors.toCollection(TreeSet::new));
        Check.due("public methods", got, new TreeSet<>(Arrays.asList(FACE)));
        Check.due("public and final", Modifier.isPublic(Pagemaze.class.getModifiers())
                && Modifier.isFinal(Pagemaze.class.getModifiers()), true);
        Constructor<?>[] constructors = Pagemaze.class.getDeclaredConstructors();
        Check.due("one constructor", constructors.length == 1
                && Modifier.isPublic(constructors[0].getModifiers())
                && constructors[0].getParameterCount() == 0, true);
    }

    private static void membersOfTheClass() {
        for (Method method : methodsOf(Pagemaze.class, false)) {
            Check.due(method.getName() + " is private", Modifier.isPrivate(method.getModifiers()), true);
        }
        for (Field field : Pagemaze.class.getDeclaredFields()) {
            Check.due(field.getName() + " is private", Modifier.isPrivate(field.getModifiers()), true);
            Check.due(field.getName() + " is final if static",
                    !Modifier.isStatic(field.getModifiers()) || Modifier.isFinal(field.getModifiers()), true);
        }
    }

    private static void classesInside() {
        Set<String> names = methodsOf(Pagemaze.class, true).stream().map(Method::getName)
                .collect(Collectors.toSet());
        Check.due("few classes", Pagemaze.class.getDeclaredClasses().length <= 11, true);
        for (Class<?> type : Pagemaze.class.getDeclaredClasses()) {
            int modifiers = type.getModifiers();
            Check.due(type + " is static and not public", Modifier.isStatic(modifiers)
                    && !Modifier.isPublic(modifiers) && !Modifier.isProtected(modifiers), true);
            Check.due(type + " has few fields", type.getDeclaredFields().length <= 20, true);
            for (Method method : type.getDeclaredMethods()) {
                Check.due(type + " has its own name for " + method.getName(), names.contains(method.getName()), false);
                Check.due(method + " takes few parameters", method.getParameterCount() <= 7, true);
            }
        }
        for (Method method : methodsOf(Pagemaze.class, false)) {
            Check.due("own name for " + method.getName(), names.contains(method.getName()), false);
        }
    }
}
