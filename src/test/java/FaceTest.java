import java.lang.reflect.Constructor;
import java.lang.reflect.Field;
import java.lang.reflect.Method;
import java.lang.reflect.Modifier;
import java.util.Set;
import java.util.TreeSet;

/** The class has the document's public face, and no other. */
public final class FaceTest {
    public static void main(String[] args) {
        Check.run(FaceTest.class);
    }

    static void theClassIsPublicAndFinal() {
        Check.due("modifiers", Modifier.toString(NestedTags.class.getModifiers()), "public final");
    }

    static void theFaceIsTheDocumentsAndNoOther() {
        Set<String> open = new TreeSet<>();
        for (Constructor<?> c : NestedTags.class.getDeclaredConstructors()) {
            addOpen(open, c.getModifiers(), c.toString());
        }
        for (Method m : NestedTags.class.getDeclaredMethods()) {
            addOpen(open, m.isSynthetic() ? Modifier.PRIVATE : m.getModifiers(), m.toString());
        }
        for (Field f : NestedTags.class.getDeclaredFields()) {
            addOpen(open, f.isSynthetic() ? Modifier.PRIVATE : f.getModifiers(), f.toString());
        }

        Set<String> face = new TreeSet<>();
        face.add("public NestedTags()");
        face.add("public boolean NestedTags.put(long,int)");
        face.add("public int NestedTags.read()");
        face.add("public int NestedTags.place()");
        face.add("public int NestedTags.piece(int,int)");
        face.add("public int NestedTags.byteOf(int)");
        face.add("public int NestedTags.count(int)");
        Check.due("the face", open.toString(), face.toString());
    }

    static void noPrivateMethodBearsTheNameOfAPublicOne() {
        Set<String> open = new TreeSet<>();
        Set<String> closed = new TreeSet<>();
        for (Method m : NestedTags.class.getDeclaredMethods()) {
            (Modifier.isPublic(m.getModifiers()) ? open : closed).add(m.getName());
        }
        closed.retainAll(open);
        Check.due("the names that both bear", closed.toString(), "[]");
    }

    static void theClassesInsideArePrivateAndStatic() {
        for (Class<?> inside : NestedTags.class.getDeclaredClasses()) {
            int modifiers = inside.getModifiers();
            Check.due(inside.getName() + " is static", Modifier.isStatic(modifiers), true);
            Check.due(inside.getName() + " is private", Modifier.isPrivate(modifiers), true);
        }
    }

    private static void addOpen(Set<String> open, int modifiers, String name) {
        if (!Modifier.isPrivate(modifiers)) {
            open.add(name);
        }
    }
}
