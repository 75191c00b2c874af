import java.lang.reflect.Constructor;
import java.lang.reflect.Executable;
import java.lang.reflect.Field;
import java.lang.reflect.Method;
import java.lang.reflect.Modifier;
import java.util.Arrays;
import java.util.TreeSet;
import java.util.stream.Collectors;

/** The face of the document, to the letter, and nothing that can be seen beside it. */
public final class FaceTest {
    private static final String[] FACE = {
        "StockDrawer(int)",
        "int draw(int) IllegalArgumentException",
        "void again(long)",
        "int part(int, int) NoSuchElementException IllegalArgumentException",
        "boolean leave(int, boolean) NoSuchElementException IllegalStateException",
        "int conditions()",
        "boolean verdict(int) IllegalArgumentException",
        "boolean holds()",
        "int shorter() IllegalStateException",
        "boolean minimal()",
        "int left(int) NoSuchElementException",
        "int whole()",
        "int pieces(int, int) NoSuchElementException",
        "int most(int) NoSuchElementException",
        "boolean same(long, int) IllegalArgumentException",
        "int count(int)"};

    private static int wrong = 0;

    private static void fault(String what) {
        wrong++;
        System.out.println(what);
    }

    private static String names(Class<?>[] types, String between) {
        return Arrays.stream(types).map(Class::getSimpleName).collect(Collectors.joining(between));
    }

    private static String text(Executable e) {
        String name = e instanceof Method m ? m.getReturnType() + " " + m.getName() : "StockDrawer";
        String thrown = names(e.getExceptionTypes(), " ");
        return name + "(" + names(e.getParameterTypes(), ", ") + ")" + (thrown.isEmpty() ? "" : " " + thrown);
    }

    private static boolean isSeen(Executable e) {
        return !Modifier.isPrivate(e.getModifiers());
    }

    private static void membersAreTheFace() {
        TreeSet<String> seen = new TreeSet<>();
        TreeSet<String> publicNames = new TreeSet<>();
        for (Constructor<?> c : StockDrawer.class.getDeclaredConstructors()) {
            if (isSeen(c)) {
                seen.add(text(c));
            }
        }
        for (Method m : StockDrawer.class.getDeclaredMethods()) {
            if (isSeen(m)) {
                seen.add(text(m));
                publicNames.add(m.getName());
                if (m.getModifiers() != Modifier.PUBLIC) {
                    fault("not public alone: " + m);
                }
            }
        }
        TreeSet<String> face = new TreeSet<>(Arrays.asList(FACE));
        if (!seen.equals(face)) {
            fault("the face is " + seen + ", due is " + face);
        }
        noHiddenMethodBearsAPublicName(publicNames);
    }

    private static void noHiddenMethodBearsAPublicName(TreeSet<String> publicNames) {
        for (Method m : StockDrawer.class.getDeclaredMethods()) {
            if (!isSeen(m) && publicNames.contains(m.getName())) {
                fault("a private method with a public one's name: " + m);
            }
        }
        for (Class<?> inside : StockDrawer.class.getDeclaredClasses()) {
            for (Method m : inside.getDeclaredMethods()) {
                if (publicNames.contains(m.getName())) {
                    fault("a method inside with a public one's name: " + m);
                }
            }
        }
    }

    private static void nothingElseIsSeen() {
        if (StockDrawer.class.getModifiers() != (Modifier.PUBLIC | Modifier.FINAL)) {
            fault("the class is not public and final");
        }
        for (Field f : StockDrawer.class.getDeclaredFields()) {
            if (!Modifier.isPrivate(f.getModifiers())) {
                fault("a field that is seen: " + f);
            }
            if (Modifier.isStatic(f.getModifiers()) && !Modifier.isFinal(f.getModifiers())) {
                fault("a static field that is not final: " + f);
            }
        }
        for (Class<?> inside : StockDrawer.class.getDeclaredClasses()) {
            int m = inside.getModifiers();
            if (!Modifier.isStatic(m) || Modifier.isPublic(m) || Modifier.isProtected(m)) {
                fault("a class inside that is not static or can be seen: " + inside);
            }
        }
    }

    public static void main(String[] args) {
        membersAreTheFace();
        nothingElseIsSeen();
        System.out.println(wrong == 0 ? "the face is as due" : wrong + " faults of the face");
        if (wrong != 0) {
            System.exit(1);
        }
    }
}
