import java.lang.reflect.Constructor;
import java.lang.reflect.Field;
import java.lang.reflect.Method;
import java.lang.reflect.Modifier;
import java.util.ArrayList;
import java.util.Arrays;
import java.util.HashSet;
import java.util.List;
import java.util.Set;

/** The public face is that of the document, and the class has no state outside its objects. */
public final class WrestleBookFace {
    private static final String[] FACE = {
        "public int join(int) throws IllegalArgumentException,IllegalStateException",
        "public int rate(int,int) throws IndexOutOfBoundsException,IllegalArgumentException",
        "public int bout(int,int,int) throws IndexOutOfBoundsException,IllegalArgumentException",
        "public int end()",
        "public int expected(int,int) throws IndexOutOfBoundsException",
        "public int told(int,int) throws IndexOutOfBoundsException",
        "public int at(int,int) throws IndexOutOfBoundsException",
        "public int count(int) throws IndexOutOfBoundsException",
        "public int would(int,int,int,int) throws IndexOutOfBoundsException,IllegalArgumentException",
        "public int chance(int,int,int) throws IndexOutOfBoundsException,IllegalArgumentException",
        "public int match(int) throws IndexOutOfBoundsException",
        "public int next()",
        "public int foresee(int) throws IllegalArgumentException",
        "public double mean()",
        "public long digest()",
    };

    private static int wrong = 0;

    public static void main(String[] args) {
        Class<?> face = WrestleBook.class;
        must(Modifier.isPublic(face.getModifiers()) && Modifier.isFinal(face.getModifiers()), "public and final");
        constructors(face);
        methods(face);
        fields(face);
        for (Class<?> inside : face.getDeclaredClasses()) {
            int modifiers = inside.getModifiers();
            must(Modifier.isStatic(modifiers), inside + " is static");
            must(!Modifier.isPublic(modifiers) && !Modifier.isProtected(modifiers), inside + " is not public");
            staticFieldsAreFinal(inside);
        }
        System.out.println(wrong == 0 ? "the face is as due" : wrong + " things of the face are not as due");
        if (wrong != 0) {
            System.exit(1);
        }
    }

    private static void constructors(Class<?> face) {
        Constructor<?>[] all = face.getDeclaredConstructors();
        must(all.length == 1, "one constructor");
        must(all[0].toGenericString().equals("public WrestleBook()"), "it is public WrestleBook()");
    }

    private static void methods(Class<?> face) {
        List<String> seen = new ArrayList<>();
        Set<String> names = new HashSet<>();
        for (Method method : face.getDeclaredMethods()) {
            if (!Modifier.isPrivate(method.getModifiers())) {
                seen.add(method.toGenericString().replace("java.lang.", "").replace("WrestleBook.", ""));
                names.add(method.getName());
            }
        }
        List<String> due = new ArrayList<>(Arrays.asList(FACE));
        for (String method : seen) {
            must(due.remove(method), "no such method in the document: " + method);
        }
        must(due.isEmpty(), "missing: " + due);
        for (Method method : face.getDeclaredMethods()) {
            boolean own = Modifier.isPrivate(method.getModifiers());
            must(!own || !names.contains(method.getName()), "a private " + method.getName());
        }
    }

    private static void fields(Class<?> face) {
        for (Field field : face.getDeclaredFields()) {
            must(Modifier.isPrivate(field.getModifiers()), field + " is private");
        }
        staticFieldsAreFinal(face);
    }

    private static void staticFieldsAreFinal(Class<?> type) {
        for (Field field : type.getDeclaredFields()) {
            int modifiers = field.getModifiers();
            must(!Modifier.isStatic(modifiers) || Modifier.isFinal(modifiers), field + " is final");
        }
    }

    private static void must(boolean holds, String what) {
        if (!holds) {
            wrong++;
            System.out.println("not so: " + what);
        }
    }
}
