import java.lang.reflect.Constructor;
import java.lang.reflect.Field;
import java.lang.reflect.Method;
import java.lang.reflect.Modifier;
import java.nio.file.Files;
import java.nio.file.Path;
import java.util.Arrays;
import java.util.List;
import java.util.Set;
import java.util.TreeSet;

/** The class shows the document's face and nothing else, and keeps to the rules that can be seen. */
public final class FindsOfficeFace {
    private static final Set<String> FACE = new TreeSet<>(List.of(
            "int go(int)", "int law(int, int, int)", "boolean owner(int, int, int)",
            "int find(int, int, int, int)", "boolean part(int, int)", "int hoard(int)",
            "int size(int, int)", "boolean counts(int)", "boolean counted(int, int)",
            "int told(int, int)", "boolean index(int, int)", "int sale(int, int, int, int)",
            "int worth(int)", "int share(int, int)", "int due(int)", "int settle(int)",
            "int paid(int)", "int place(int, int)", "int within(int, int, int)",
            "int museum(int, int)", "int offer(int)", "int spent(int)", "int count(int)"));
    private static final List<String> FORBIDDEN = List.of("throw", "try", "catch", "synchronized",
            "assert", "->", "::", "Exact", "package ", "System.out", "hashCode", "toString");

    private static int wrong = 0;

    public static void main(String[] args) throws Exception {
        methods();
        fieldsAndConstructors();
        nestedClasses();
        words();
        System.out.println(wrong == 0 ? "the face is as due" : wrong + " faults in the face");
        if (wrong != 0) {
            System.exit(1);
        }
    }

    private static void check(boolean good, String fault) {
        if (!good) {
            wrong++;
            System.out.println(fault);
        }
    }

    private static String signature(Method method) {
        String types = Arrays.toString(method.getParameterTypes());
        return method.getReturnType() + " " + method.getName() + "(" + types.substring(1, types.length() - 1) + ")";
    }

    private static void methods() {
        Set<String> shown = new TreeSet<>();
        Set<String> names = new TreeSet<>();
        for (Method method : FindsOffice.class.getDeclaredMethods()) {
            if (Modifier.isPublic(method.getModifiers())) {
                check(!Modifier.isStatic(method.getModifiers()), "static: " + method);
                shown.add(signature(method));
                names.add(method.getName());
            }
        }
        check(shown.equals(FACE), "the public methods are " + shown);
        for (Method method : FindsOffice.class.getDeclaredMethods()) {
            if (!Modifier.isPublic(method.getModifiers())) {
                check(Modifier.isPrivate(method.getModifiers()), "neither public nor private: " + method);
                check(!names.contains(method.getName()), "bears a public one's name: " + method);
            }
            check(method.getParameterCount() <= 7, "too many parameters: " + method);
        }
    }

    private static void fieldsAndConstructors() {
        check(Modifier.isFinal(FindsOffice.class.getModifiers()), "the class isn't final");
        for (Field field : FindsOffice.class.getDeclaredFields()) {
            boolean isFace = field.getName().equals("NONE");
            check(isFace == Modifier.isPublic(field.getModifiers()), "shown or hidden: " + field);
            check(isFace || Modifier.isPrivate(field.getModifiers()), "package-visible: " + field);
        }
        Constructor<?>[] constructors = FindsOffice.class.getDeclaredConstructors();
        check(constructors.length == 1 && constructors[0].getParameterCount() == 0
                && Modifier.isPublic(constructors[0].getModifiers()), "the constructor");
    }

    private static void nestedClasses() {
        Class<?>[] nested = FindsOffice.class.getDeclaredClasses();
        check(nested.length <= 11, "too many classes: " + nested.length);
        for (Class<?> inside : nested) {
            check(Modifier.isStatic(inside.getModifiers()), "not static: " + inside);
            check(!Modifier.isPublic(inside.getModifiers()), "public: " + inside);
            for (Field field : inside.getDeclaredFields()) {
                boolean isStatic = Modifier.isStatic(field.getModifiers());
                check(!isStatic || Modifier.isFinal(field.getModifiers()), "static, not final: " + field);
            }
        }
    }

    private static void words() throws Exception {
        String text = Files.readString(Path.of("src/main/java/FindsOffice.java"));
        for (String word : FORBIDDEN) {
            check(!text.contains(word), "in the source stands: " + word);
        }
        for (int i = 0; i < text.length(); i++) {
            check(text.charAt(i) < 128, "a character beyond ASCII at " + i);
        }
    }
}
