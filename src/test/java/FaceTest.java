import java.lang.reflect.Constructor;
import java.lang.reflect.Field;
import java.lang.reflect.Method;
import java.lang.reflect.Modifier;
import java.util.Arrays;
import java.util.TreeSet;

/** The class has every constant, constructor and method of the document's face, and no other. */
public final class FaceTest {
    private static final String[] FACE = {
        "public static final int NONE",
        "public LineSorter()",
        "public int feed(int,int,int,int,int) throws IllegalStateException",
        "public void end(int) throws IllegalArgumentException",
        "public void ways(int,boolean,boolean) throws IllegalArgumentException",
        "public void separator(int) throws IllegalArgumentException",
        "public int key(int,int,int,int,int) throws IllegalArgumentException,UnsupportedOperationException",
        "public int keyless()",
        "public void memory(int,int) throws IllegalArgumentException",
        "public int lines()",
        "public int place(int,int,boolean) throws IndexOutOfBoundsException",
        "public int compare(int,int) throws IndexOutOfBoundsException",
        "public int sort() throws UnsupportedOperationException",
        "public int check()",
        "public int merge(int) throws IllegalArgumentException,UnsupportedOperationException",
        "public int result(int)",
        "public int byteAt(int,int)",
        "public int run(int)",
        "public int about(int) throws IllegalArgumentException",
    };

    public static void main(String[] args) {
        TreeSet<String> due = new TreeSet<>(Arrays.asList(FACE));
        TreeSet<String> found = new TreeSet<>();
        for (Field field : LineSorter.class.getDeclaredFields()) {
            addUnlessPrivate(found, field.getModifiers(), field.toString());
        }
        for (Constructor<?> constructor : LineSorter.class.getDeclaredConstructors()) {
            addUnlessPrivate(found, constructor.getModifiers(), constructor.toString());
        }
        for (Method method : LineSorter.class.getDeclaredMethods()) {
            addUnlessPrivate(found, method.getModifiers(), method.toString());
        }
        boolean isPublicAndFinal = Modifier.isPublic(LineSorter.class.getModifiers())
                && Modifier.isFinal(LineSorter.class.getModifiers());
        if (!found.equals(due) || !isPublicAndFinal || LineSorter.NONE != -1 || !namesAreApart(found)) {
            System.out.println("the face is\n" + String.join("\n", found) + "\ndue is\n" + String.join("\n", due));
            System.exit(1);
        }
        System.out.println("the face is as due");
    }

    private static void addUnlessPrivate(TreeSet<String> found, int modifiers, String told) {
        if (!Modifier.isPrivate(modifiers)) {
            found.add(told.replace("java.lang.", "").replace("LineSorter.", ""));
        }
    }

    private static boolean namesAreApart(TreeSet<String> face) {
        for (Class<?> inside : LineSorter.class.getDeclaredClasses()) {
            if (!privateNamesAreApart(inside, face)) {
                return false;
            }
        }
        return privateNamesAreApart(LineSorter.class, face);
    }

    private static boolean privateNamesAreApart(Class<?> type, TreeSet<String> face) {
        for (Method method : type.getDeclaredMethods()) {
            boolean isFace = type == LineSorter.class && Modifier.isPublic(method.getModifiers());
            for (String told : face) {
                if (!isFace && told.contains(" " + method.getName() + "(")) {
                    System.out.println(type.getName() + " has a method of the face's name " + method.getName());
                    return false;
                }
            }
        }
        return true;
    }
}
