import java.lang.reflect.Constructor;
import java.lang.reflect.Field;
import java.lang.reflect.Method;
import java.lang.reflect.Modifier;
import java.util.TreeSet;

/** The class shows the document's face and nothing else. */
public final class FaceTest {
    private static final String[] FACE = {
        "public static final int VisualSums.NONE",
        "public VisualSums(int,int,int)",
        "public int VisualSums.put(boolean,int,int,int,int) throws"
            + " java.lang.IndexOutOfBoundsException,java.lang.IllegalArgumentException",
        "public int VisualSums.paint(boolean,int,int)",
        "public int VisualSums.copy()",
        "public double VisualSums.squared(int) throws java.lang.IndexOutOfBoundsException",
        "public int VisualSums.greatest()",
        "public int VisualSums.grey(boolean,int,int) throws java.lang.IndexOutOfBoundsException",
        "public double VisualSums.structure(int) throws"
            + " java.lang.IllegalArgumentException,java.lang.IllegalStateException",
        "public double VisualSums.map(int,int) throws java.lang.IndexOutOfBoundsException",
        "public double VisualSums.blocks(int) throws java.lang.IllegalArgumentException",
        "public double VisualSums.bands()",
        "public int VisualSums.signs(boolean)",
        "public boolean VisualSums.equal()",
        "public int VisualSums.note(int,double) throws java.lang.IndexOutOfBoundsException,"
            + "java.lang.IllegalArgumentException,java.lang.UnsupportedOperationException",
        "public double VisualSums.mean(int) throws"
            + " java.lang.IndexOutOfBoundsException,java.lang.IllegalStateException",
        "public double VisualSums.ranked(int,int) throws java.lang.IndexOutOfBoundsException",
        "public int VisualSums.wins(int,int) throws java.lang.IndexOutOfBoundsException",
        "public int VisualSums.told(int)",
        "public void VisualSums.clear()",
    };

    public static void main(String[] args) {
        Check.same("the members that are not private", shown(), due());
        Check.same("NONE", VisualSums.NONE, -1);
        Check.same("the class is public and final",
            Modifier.isPublic(VisualSums.class.getModifiers()) && Modifier.isFinal(VisualSums.class.getModifiers()), true);
        for (Field field : VisualSums.class.getDeclaredFields()) {
            int modifiers = field.getModifiers();
            Check.same(field + " is final, if it is static", Modifier.isStatic(modifiers) && !Modifier.isFinal(modifiers), false);
        }
        for (Class<?> inside : VisualSums.class.getDeclaredClasses()) {
            Check.same(inside + " is static", Modifier.isStatic(inside.getModifiers()), true);
            Check.same(inside + " is not public", Modifier.isPublic(inside.getModifiers()), false);
        }
        Check.end();
    }

    private static String due() {
        TreeSet<String> lines = new TreeSet<>();
        for (String line : FACE) {
            lines.add(line);
        }
        return String.join("\n", lines);
    }

    private static String shown() {
        TreeSet<String> lines = new TreeSet<>();
        for (Field field : VisualSums.class.getDeclaredFields()) {
            if (!Modifier.isPrivate(field.getModifiers())) {
                lines.add(field.toString());
            }
        }
        for (Constructor<?> constructor : VisualSums.class.getDeclaredConstructors()) {
            if (!Modifier.isPrivate(constructor.getModifiers())) {
                lines.add(constructor.toString());
            }
        }
        for (Method method : VisualSums.class.getDeclaredMethods()) {
            if (!Modifier.isPrivate(method.getModifiers())) {
                lines.add(method.toString());
            }
        }
        return String.join("\n", lines);
    }
}
