import java.lang.reflect.Constructor;
import java.lang.reflect.Field;
import java.lang.reflect.Method;
import java.lang.reflect.Modifier;
import java.util.Set;
import java.util.TreeSet;

/** The public face is the document's, every sign of it, and nothing else of the class can be seen. */
public final class FaceTest {
    private static final String[] FACE = {
        "public static final int LassoDesk.NONE",
        "public LassoDesk()",
        "public boolean LassoDesk.type(int) throws java.lang.IllegalArgumentException",
        "public int LassoDesk.formula() throws java.lang.IllegalArgumentException",
        "public int LassoDesk.states() throws java.lang.IllegalStateException",
        "public boolean LassoDesk.isAt(int) throws java.lang.IllegalStateException,java.lang.IndexOutOfBoundsException",
        "public boolean LassoDesk.leads(int,int) throws java.lang.IllegalStateException,java.lang.IndexOutOfBoundsException",
        "public boolean LassoDesk.lasts(int) throws java.lang.IllegalStateException,java.lang.IndexOutOfBoundsException",
        "public int LassoDesk.lasting() throws java.lang.IllegalStateException",
        "public int LassoDesk.promises() throws java.lang.IllegalStateException",
        "public boolean LassoDesk.can() throws java.lang.IllegalStateException",
        "public int LassoDesk.stem() throws java.lang.IllegalStateException",
        "public int LassoDesk.loop() throws java.lang.IllegalStateException",
        "public int LassoDesk.step(int) throws java.lang.IllegalStateException,java.lang.IndexOutOfBoundsException",
        "public void LassoDesk.shape(int,int) throws java.lang.IllegalArgumentException",
        "public int LassoDesk.set(int,int) throws java.lang.IndexOutOfBoundsException",
        "public boolean LassoDesk.adopt() throws java.lang.IllegalStateException",
        "public int LassoDesk.letter(int) throws java.lang.IndexOutOfBoundsException",
        "public boolean LassoDesk.holds(int) throws java.lang.IllegalStateException,java.lang.IndexOutOfBoundsException",
    };

    public static void main(String[] args) {
        Due.test("the public face", FaceTest::faceIsTheDocuments);
        Due.test("public final class LassoDesk", FaceTest::classIsPublicAndFinal);
        Due.test("NONE = -1", () -> Due.due("NONE", LassoDesk.NONE, -1));
        Due.test("LANGUAGE.md, rule 1: the classes inside", FaceTest::classesInsideAreHidden);
        Due.test("LANGUAGE.md, rule 1: no private method bears the name of a public one", FaceTest::oneMethodToAName);
        Due.end();
    }

    private static void faceIsTheDocuments() {
        Set<String> found = new TreeSet<>();
        for (Field field : LassoDesk.class.getDeclaredFields()) {
            addSeen(found, field.getModifiers(), field.toGenericString());
        }
        for (Constructor<?> made : LassoDesk.class.getDeclaredConstructors()) {
            addSeen(found, made.getModifiers(), made.toGenericString());
        }
        for (Method method : LassoDesk.class.getDeclaredMethods()) {
            addSeen(found, method.getModifiers(), method.toGenericString());
        }
        Due.due("what can be seen", found, new TreeSet<>(Set.of(FACE)));
    }

    private static void addSeen(Set<String> found, int modifiers, String text) {
        if (!Modifier.isPrivate(modifiers)) {
            found.add(text);
        }
    }

    private static void classIsPublicAndFinal() {
        Due.due("public", Modifier.isPublic(LassoDesk.class.getModifiers()), true);
        Due.due("final", Modifier.isFinal(LassoDesk.class.getModifiers()), true);
    }

    private static void classesInsideAreHidden() {
        for (Class<?> inside : LassoDesk.class.getDeclaredClasses()) {
            int kind = inside.getModifiers();
            Due.due(inside.getName() + " static", Modifier.isStatic(kind), true);
            Due.due(inside.getName() + " hidden", !Modifier.isPublic(kind) && !Modifier.isProtected(kind), true);
        }
    }

    private static void oneMethodToAName() {
        Set<String> names = new TreeSet<>();
        for (Method method : LassoDesk.class.getDeclaredMethods()) {
            Due.due(method.getName() + " for the first time", names.add(method.getName()), true);
        }
    }
}
