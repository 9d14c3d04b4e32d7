import java.lang.reflect.Constructor;
import java.lang.reflect.Field;
import java.lang.reflect.Method;
import java.lang.reflect.Modifier;
import java.util.Set;
import java.util.TreeSet;

/** The public face is the document's, every sign of it, and nothing else of the class can be seen. */
public final class FaceTest {
    private static final String[] FACE = {
        "public static final int LassoDesk.NONE",
        "public LassoDesk()",
        "public boolean LassoDesk.type(int) throws java.lang.IllegalArgumentException",
        "public int LassoDesk.formula() throws java.lang.IllegalArgumentException",
        "public int LassoDesk.states() throws java.lang.IllegalStateException",
        "public boolean LassoDesk.isAt(int) throws java.lang.IllegalStateException,java.lang.IndexOutOfBoundsException",
        "public boolean LassoDesk.leads(int,int) throws java.lang.IllegalStateException,java.lang.IndexOutOfBoundsException",
        "public boolean LassoDesk.lasts(int) throws java.lang.IllegalStateException,java.lang.IndexOutOfBoundsException",
        "public int LassoDesk.lasting() throws java.lang.IllegalStateException",
        "public int LassoDesk.promises() throws java.lang.IllegalStateException",
        "public boolean LassoDesk.can() throws java.lang.IllegalStateException",
        "public int LassoDesk.stem() throws java.lang.IllegalStateException",
        "public int LassoDesk.loop() throws java.lang.IllegalStateException",
        "public int LassoDesk.step(int) throws java.lang.IllegalStateException,java.lang.IndexOutOfBoundsException",
        "public void LassoDesk.shape(int,int) throws java.lang.IllegalArgumentException",
        "public int LassoDesk.set(int,int) throws java.lang.IndexOutOfBoundsException",
        "public boolean LassoDesk.adopt() throws java.lang.IllegalStateException",
        "public int LassoDesk.letter(int) throws java.lang.IndexOutOfBoundsException",
        "public boolean LassoDesk.holds(int) throws java.lang.IllegalStateException,java.lang.IndexOutOfBoundsException",
    };

    public static void main(String[] args) {
        Set<String> due = new TreeSet<>(Set.of(FACE));
        Set<String> found = new TreeSet<>();
        for (Field field : LassoDesk.class.getDeclaredFields()) {
            addSeen(found, field.getModifiers(), field.toGenericString());
        }
        for (Constructor<?> made : LassoDesk.class.getDeclaredConstructors()) {
            addSeen(found, made.getModifiers(), made.toGenericString());
        }
        boolean good = true;
        Set<String> names = new TreeSet<>();
        for (Method method : LassoDesk.class.getDeclaredMethods()) {
            addSeen(found, method.getModifiers(), method.toGenericString());
            good &= isGood(method.getName(), names.add(method.getName()), "two methods bear this name");
        }
        good &= isGood("the face", found.equals(due), "found " + found);
        int modifiers = LassoDesk.class.getModifiers();
        good &= isGood("the class", Modifier.isPublic(modifiers) && Modifier.isFinal(modifiers), "is not public and final");
        good &= isGood("NONE", LassoDesk.NONE == -1, "is not -1");
        for (Class<?> inside : LassoDesk.class.getDeclaredClasses()) {
            int kind = inside.getModifiers();
            good &= isGood(inside.getName(), Modifier.isStatic(kind) && !Modifier.isPublic(kind) && !Modifier.isProtected(kind),
                "is not static and hidden");
        }
        System.out.println(good ? "all answers are as due" : "the face is not as due");
        if (!good) {
            System.exit(1);
        }
    }

    private static void addSeen(Set<String> found, int modifiers, String text) {
        if (!Modifier.isPrivate(modifiers)) {
            found.add(text);
        }
    }

    private static boolean isGood(String what, boolean good, String otherwise) {
        if (!good) {
            System.out.println(what + ": " + otherwise);
        }
        return good;
    }
}
