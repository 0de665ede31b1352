import java.lang.reflect.Constructor;
import java.lang.reflect.Field;
import java.lang.reflect.Member;
import java.lang.reflect.Method;
import java.lang.reflect.Modifier;
import java.util.Arrays;
import java.util.TreeSet;

/** The face is the document's, and nothing else of the class can be reached (LANGUAGE.md, rule 1). */
public final class FaceTest {
    private static final String[] FACE = {
        "int NONE", "int LENGTH", "int PADDING", "SheetKeys()",
        "int feed(int, int, int, int, int)",
        "int put(int, int) IndexOutOfBoundsException IllegalArgumentException",
        "int cut(int) IllegalArgumentException",
        "void handler(int, int, int, boolean) IllegalArgumentException",
        "int take(int) IllegalArgumentException IllegalStateException",
        "void enter(int) IllegalArgumentException",
        "int open()", "int key(int)", "void digest()",
        "int undo(int, int, int) IllegalArgumentException IllegalStateException",
        "int seal(int, int, int, int, int) IllegalArgumentException IllegalStateException",
        "int count(int)", "int at(int)", "int entry(int, int)", "int keep()"
    };

    public static void main(String[] args) {
        TreeSet<String> got = new TreeSet<>();
        TreeSet<String> names = new TreeSet<>();
        for (Field f : SheetKeys.class.getDeclaredFields()) {
            if (isSeen(f)) {
                got.add(f.getType() + " " + f.getName());
                Check.same(f.getName() + " is static and final",
                        f.getModifiers(), Modifier.PUBLIC | Modifier.STATIC | Modifier.FINAL);
            }
        }
        for (Constructor<?> c : SheetKeys.class.getDeclaredConstructors()) {
            if (isSeen(c)) {
                got.add("SheetKeys(" + listed(c.getParameterTypes(), ", ") + ")");
            }
        }
        for (Method m : SheetKeys.class.getDeclaredMethods()) {
            if (isSeen(m)) {
                String thrown = listed(m.getExceptionTypes(), " ");
                got.add(m.getReturnType() + " " + m.getName() + "(" + listed(m.getParameterTypes(), ", ") + ")"
                        + (thrown.isEmpty() ? "" : " " + thrown));
                names.add(m.getName());
            }
        }
        Check.same("the face", got.toString(), new TreeSet<>(Arrays.asList(FACE)).toString());
        Check.same("the class's modifiers", SheetKeys.class.getModifiers(), Modifier.PUBLIC | Modifier.FINAL);
        for (Method m : SheetKeys.class.getDeclaredMethods()) {
            if (!isSeen(m)) {
                Check.same(m.getName() + " bears a public method's name", names.contains(m.getName()) ? 1 : 0, 0);
            }
        }
        for (Class<?> inside : SheetKeys.class.getDeclaredClasses()) {
            int seen = inside.getModifiers() & (Modifier.PUBLIC | Modifier.PROTECTED | Modifier.STATIC);
            Check.same(inside.getName() + " is static and not seen", seen, Modifier.STATIC);
        }
        Check.same("NONE", SheetKeys.NONE, -1);
        Check.same("LENGTH", SheetKeys.LENGTH, -2);
        Check.same("PADDING", SheetKeys.PADDING, -3);
        Check.end();
    }

    private static boolean isSeen(Member m) {
        return !Modifier.isPrivate(m.getModifiers()) && !m.isSynthetic();
    }

    private static String listed(Class<?>[] types, String between) {
        StringBuilder s = new StringBuilder();
        for (Class<?> type : types) {
            s.append(s.length() == 0 ? "" : between).append(type.getSimpleName());
        }
        return s.toString();
    }
}
