import java.lang.reflect.Constructor;
import java.lang.reflect.Field;
import java.lang.reflect.Method;
import java.lang.reflect.Modifier;
import java.util.Arrays;
import java.util.Set;
import java.util.TreeSet;

/** The public face of the document, and that nothing else can be seen from outside. */
final class FaceTests {

    private static final String[] FACE = {
        "size(int,int) throws IllegalArgumentException",
        "setting(int,int) throws IllegalArgumentException",
        "number(int) throws IllegalArgumentException",
        "set(int,int,int) throws IndexOutOfBoundsException,IllegalArgumentException",
        "pixel(int,int) throws IndexOutOfBoundsException",
        "fill(int,int,int,int,int) throws IndexOutOfBoundsException,IllegalArgumentException",
        "mask(int,int,int,int,boolean) throws IndexOutOfBoundsException,IllegalArgumentException",
        "tileOf(int,int) throws IndexOutOfBoundsException",
        "tile(int,int) throws IndexOutOfBoundsException,IllegalArgumentException",
        "raise(int,int) throws IndexOutOfBoundsException,IllegalArgumentException,UnsupportedOperationException",
        "swap(int,int) throws IndexOutOfBoundsException,UnsupportedOperationException",
        "soften(int,int) throws IndexOutOfBoundsException,IllegalArgumentException",
        "coefficient(int,int,int) throws IndexOutOfBoundsException",
        "band(int,int,int) throws IndexOutOfBoundsException",
        "layerOf(int,int,int,int) throws IndexOutOfBoundsException,IllegalArgumentException",
        "bits(int,int) throws IndexOutOfBoundsException,IllegalArgumentException",
        "descendants(int,int,int) throws IndexOutOfBoundsException",
        "roots(int,int) throws IndexOutOfBoundsException,IllegalArgumentException",
        "needed(int,int) throws IndexOutOfBoundsException",
        "decoded(int,int,int) throws IllegalArgumentException,IndexOutOfBoundsException",
        "worst(int,int,boolean) throws IllegalArgumentException,IndexOutOfBoundsException",
        "double meanSquare(int) throws IllegalArgumentException",
        "plan(int) throws IllegalArgumentException",
        "planned(int) throws NoSuchElementException,IndexOutOfBoundsException",
        "feed(char) throws IllegalStateException",
        "read() throws IllegalArgumentException,UnsupportedOperationException",
        "faultPosition() throws NoSuchElementException",
        "refusal(boolean) throws NoSuchElementException",
        "undo() throws IllegalStateException",
        "saveSnapshot()",
        "restoreSnapshot() throws IllegalStateException",
    };

    public static void main(String[] args) {
        Check.due("the class is public and final", Modifier.toString(WaveletTiler.class.getModifiers()),
                "public final");
        methodsAreTheFace();
        constructorIsTheFace();
        fieldsAreHidden();
        classesInside();
        Check.end("FaceTests");
    }

    private static void methodsAreTheFace() {
        Set<String> due = new TreeSet<>();
        for (String method : FACE) {
            due.add(method.startsWith("double") ? method : "int " + method);
        }
        Set<String> seen = new TreeSet<>();
        for (Method method : WaveletTiler.class.getDeclaredMethods()) {
            if (!Modifier.isPrivate(method.getModifiers())) {
                Check.due("modifiers of " + method.getName(), Modifier.toString(method.getModifiers()), "public");
                seen.add(described(method));
            }
        }
        Check.due("the methods", seen, due);
    }

    private static String described(Method method) {
        StringBuilder thrown = new StringBuilder();
        for (Class<?> exception : method.getExceptionTypes()) {
            thrown.append(thrown.length() == 0 ? " throws " : ",").append(exception.getSimpleName());
        }
        String parameters = Arrays.toString(method.getParameterTypes()).replaceAll("[\\[\\] ]", "");
        return method.getReturnType() + " " + method.getName() + "(" + parameters + ")" + thrown;
    }

    private static void constructorIsTheFace() {
        Constructor<?>[] constructors = WaveletTiler.class.getDeclaredConstructors();
        Check.due("the constructors", Arrays.toString(constructors), "[public WaveletTiler()]");
    }

    private static void fieldsAreHidden() {
        for (Field field : WaveletTiler.class.getDeclaredFields()) {
            Check.due(field + " is private", Modifier.isPrivate(field.getModifiers()), true);
            boolean isShared = Modifier.isStatic(field.getModifiers());
            Check.due(field + " is no static state", !isShared || Modifier.isFinal(field.getModifiers()), true);
        }
    }

    /** No private method may bear the name of a public one. */
    private static void classesInside() {
        Set<String> names = new TreeSet<>();
        for (String method : FACE) {
            names.add(method.replaceAll("^double |\\(.*", ""));
        }
        for (Method method : WaveletTiler.class.getDeclaredMethods()) {
            if (Modifier.isPrivate(method.getModifiers())) {
                Check.due(method + " has a name of its own", names.contains(method.getName()), false);
            }
        }
        for (Class<?> inside : WaveletTiler.class.getDeclaredClasses()) {
            Check.due(inside + " is private and static", Modifier.toString(inside.getModifiers()),
                    "private static final");
            for (Method method : inside.getDeclaredMethods()) {
                Check.due(method + " has a name of its own", names.contains(method.getName()), false);
            }
        }
    }
}
