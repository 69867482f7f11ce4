import java.lang.reflect.Constructor;
import java.lang.reflect.Field;
import java.lang.reflect.Method;
import java.lang.reflect.Modifier;
import java.util.Set;
import java.util.TreeSet;

/** The class has the public face of the document, and no other member that is not private. */
public final class FaceTest {
    private static int wrong = 0;

    private static final Set<String> DUE = Set.of(
        "public static final int NONE",
        "public SandboxTree(int)",
        "public int path(int,char)",
        "public boolean file(int,int)",
        "public int source(int)",
        "public int action()",
        "public int declare(int,int,boolean)",
        "public void strict(boolean)",
        "public int begin(int)",
        "public int open(int,int)",
        "public int write(int,int,int)",
        "public int link(int,int,int)",
        "public int remove(int,int)",
        "public int list(int,int,int)",
        "public int finish(int,boolean)",
        "public int tried(int,int)",
        "public int about(int,int)");

    private static void check(String what, Object got, Object want) {
        if (!got.equals(want)) {
            wrong++;
            System.out.println(what + " is " + got + ", due is " + want);
        }
    }

    private static boolean isHidden(int modifiers, boolean synthetic) {
        return Modifier.isPrivate(modifiers) || synthetic;
    }

    private static Set<String> membersSeen() {
        Set<String> seen = new TreeSet<>();
        for (Field f : SandboxTree.class.getDeclaredFields()) {
            if (!isHidden(f.getModifiers(), f.isSynthetic())) {
                seen.add(f.toString().replace("SandboxTree.", ""));
            }
            if (Modifier.isStatic(f.getModifiers()) && !Modifier.isFinal(f.getModifiers())) {
                check("static field " + f.getName(), "not final", "final");
            }
        }
        for (Constructor<?> c : SandboxTree.class.getDeclaredConstructors()) {
            if (!isHidden(c.getModifiers(), c.isSynthetic())) {
                seen.add(c.toString());
            }
        }
        for (Method m : SandboxTree.class.getDeclaredMethods()) {
            if (!isHidden(m.getModifiers(), m.isSynthetic())) {
                seen.add(m.toString().replace("SandboxTree.", ""));
            }
        }
        return seen;
    }

    private static void noPrivateMethodHasAPublicName() {
        Set<String> open = new TreeSet<>();
        for (Method m : SandboxTree.class.getDeclaredMethods()) {
            if (Modifier.isPublic(m.getModifiers())) {
                open.add(m.getName());
            }
        }
        for (Method m : SandboxTree.class.getDeclaredMethods()) {
            if (!Modifier.isPublic(m.getModifiers()) && open.contains(m.getName())) {
                check("private method " + m.getName(), "named like a public one", "named otherwise");
            }
        }
    }

    public static void main(String[] args) {
        check("the face", membersSeen(), new TreeSet<>(DUE));
        check("the class's modifiers", Modifier.toString(SandboxTree.class.getModifiers()), "public final");
        check("NONE", SandboxTree.NONE, -1);
        noPrivateMethodHasAPublicName();
        for (Class<?> inside : SandboxTree.class.getDeclaredClasses()) {
            boolean fine = Modifier.isStatic(inside.getModifiers()) && !Modifier.isPublic(inside.getModifiers())
                && !Modifier.isProtected(inside.getModifiers());
            check("static and not public: " + inside.getName(), fine, true);
        }
        System.out.println(wrong == 0 ? "the face is as due" : wrong + " things are not as due");
        if (wrong != 0) {
            System.exit(1);
        }
    }
}
