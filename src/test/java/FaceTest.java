import java.lang.reflect.Constructor;
import java.lang.reflect.Field;
import java.lang.reflect.Method;
import java.lang.reflect.Modifier;
import java.util.Arrays;
import java.util.TreeSet;

/** The face of the class: what the document names and nothing else, and no helper with a name of the face. */
public final class FaceTest {
    private static final String[] FACE = {
        "public int TheatreSaga.tour(int) throws IllegalArgumentException,UnsupportedOperationException",
        "public int TheatreSaga.step(int,int,int,int,int) throws IndexOutOfBoundsException,"
            + "IllegalArgumentException,UnsupportedOperationException",
        "public int TheatreSaga.start(int) throws IndexOutOfBoundsException,UnsupportedOperationException",
        "public int TheatreSaga.back(int) throws IndexOutOfBoundsException,UnsupportedOperationException",
        "public int TheatreSaga.tourOf(int,int) throws IndexOutOfBoundsException,IllegalArgumentException",
        "public int TheatreSaga.stepOf(int,int,int) throws IndexOutOfBoundsException,IllegalArgumentException",
        "public int TheatreSaga.shut(int,boolean) throws IndexOutOfBoundsException,UnsupportedOperationException",
        "public int TheatreSaga.dear(int,int) throws IndexOutOfBoundsException,IllegalArgumentException",
        "public int TheatreSaga.townOf(int,int) throws IndexOutOfBoundsException,IllegalArgumentException",
        "public int TheatreSaga.pass(int) throws IllegalArgumentException",
        "public int TheatreSaga.left(int,int,int) throws IndexOutOfBoundsException",
        "public int TheatreSaga.leftAgain(int,int,int) throws IndexOutOfBoundsException",
        "public int TheatreSaga.faultOf(int) throws IndexOutOfBoundsException,NoSuchElementException",
        "public int TheatreSaga.endsIn(int) throws IndexOutOfBoundsException,NoSuchElementException",
        "public int TheatreSaga.costs(int) throws IndexOutOfBoundsException",
        "public int TheatreSaga.cheapest(int,int,int) throws IndexOutOfBoundsException,"
            + "IllegalArgumentException,NoSuchElementException",
        "public int TheatreSaga.ranked(int) throws NoSuchElementException",
        "public int TheatreSaga.line(int) throws IndexOutOfBoundsException",
        "public char TheatreSaga.character(int) throws IndexOutOfBoundsException",
        "public int TheatreSaga.number(int) throws IllegalArgumentException",
        "public int TheatreSaga.coinsAgain()",
        "public double TheatreSaga.meanSteps() throws ArithmeticException",
        "public float TheatreSaga.failedShare() throws ArithmeticException",
        "public int TheatreSaga.feed(char) throws IllegalStateException",
        "public int TheatreSaga.read() throws IllegalArgumentException,UnsupportedOperationException",
        "public int TheatreSaga.faultPosition() throws NoSuchElementException",
        "public int TheatreSaga.refusal(boolean) throws NoSuchElementException",
        "public int TheatreSaga.undo() throws IllegalStateException",
        "public int TheatreSaga.saveSnapshot()",
        "public int TheatreSaga.restoreSnapshot() throws IllegalStateException",
    };

    private FaceTest() {
    }

    public static void main(String[] args) {
        Class<?> face = TheatreSaga.class;
        int modifiers = face.getModifiers();
        Check.yes("the class is public and final", Modifier.isPublic(modifiers) && Modifier.isFinal(modifiers));
        checkMethods(face);
        for (Constructor<?> made : face.getDeclaredConstructors()) {
            Check.same("the constructor", made.toString(), "public TheatreSaga()");
        }
        checkFields(face);
        for (Class<?> inside : face.getDeclaredClasses()) {
            Check.yes(inside + " is private and static",
                Modifier.isPrivate(inside.getModifiers()) && Modifier.isStatic(inside.getModifiers()));
            checkNames(inside);
            checkFields(inside);
        }
        Check.end("FaceTest");
    }

    private static void checkMethods(Class<?> face) {
        TreeSet<String> got = new TreeSet<>();
        for (Method method : face.getDeclaredMethods()) {
            if (!Modifier.isPrivate(method.getModifiers())) {
                got.add(method.toString().replace("java.lang.", "").replace("java.util.", ""));
            } else {
                Check.yes("the name of the helper " + method.getName(), !isOfTheFace(method.getName()));
            }
        }
        Check.same("the methods", got.toString(), new TreeSet<>(Arrays.asList(FACE)).toString());
    }

    private static void checkNames(Class<?> inside) {
        for (Method method : inside.getDeclaredMethods()) {
            Check.yes("the name of the helper " + method, !isOfTheFace(method.getName()));
        }
    }

    private static boolean isOfTheFace(String name) {
        for (String line : FACE) {
            if (line.contains("TheatreSaga." + name + "(")) {
                return true;
            }
        }
        return false;
    }

    private static void checkFields(Class<?> holder) {
        int inObjects = 0;
        for (Field field : holder.getDeclaredFields()) {
            Check.yes("the field is private: " + field, Modifier.isPrivate(field.getModifiers()));
            if (Modifier.isStatic(field.getModifiers())) {
                Check.yes("the static field is final: " + field, Modifier.isFinal(field.getModifiers()));
            } else {
                inObjects++;
            }
        }
        Check.yes("the fields of " + holder + " are at most twenty", inObjects <= 20);
    }
}
