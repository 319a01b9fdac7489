import java.lang.reflect.Constructor;
import java.lang.reflect.Field;
import java.lang.reflect.Method;
import java.lang.reflect.Modifier;
import java.nio.file.Files;
import java.nio.file.Path;
import java.util.Arrays;
import java.util.TreeSet;

/** The public face of the document, and of LANGUAGE.md what a look at the class and its text can tell. */
public final class FaceTest {
    private static final String[] METHODS = {
        "int hold(int,int,int)", "int share(int,int)", "int keep(int,int)", "int hive(int,boolean)",
        "int places(int)", "int enter(int,int,int,long)", "long tell(int,int,int)",
        "int pass(int,int,int,int)", "int copy(int,int)", "int stand(int,int,int)", "int standing(int,int)",
        "int hum(int,int)", "int lay(int,int,int)", "long sheet(int,int,int,int)", "long sum(int,int)",
        "int highest(int,int)", "int same(int,int)", "int sort(int)", "int failed()", "int count(int)",
    };
    private static final String[] CONSTANTS = {"NONE", "UNKNOWN", "OUTSIDE", "FULL"};
    private static final String[] LEFT_OUT = {
        "throw", "throws", "try", "catch", "finally", "synchronized", "assert", "import", "package", "double", "float",
        "Double", "Float", "Object", "protected", "hashCode", "equals", "toString", "native", "volatile", "transient",
    };

    public static void main(String[] args) throws Exception {
        face();
        nestedClasses();
        words();
        Due.end();
    }

    private static void holds(String what, boolean so) {
        Due.is(what, so ? 1 : 0, 1);
    }

    private static void face() {
        Class<?> c = HiveColumns.class;
        holds("public and final", c.getModifiers() == (Modifier.PUBLIC | Modifier.FINAL));
        TreeSet<String> methods = new TreeSet<>();
        TreeSet<String> names = new TreeSet<>();
        for (Method m : c.getDeclaredMethods()) {
            if (Modifier.isPublic(m.getModifiers())) {
                methods.add(m.getReturnType() + " " + m.getName() + parameters(m.getParameterTypes()));
                names.add(m.getName());
                holds(m + " is no more than public", m.getModifiers() == Modifier.PUBLIC);
            }
        }
        holds("public methods: " + methods, methods.equals(new TreeSet<>(Arrays.asList(METHODS))));
        for (Method m : c.getDeclaredMethods()) {
            if (!Modifier.isPublic(m.getModifiers())) {
                holds(m + " is private", Modifier.isPrivate(m.getModifiers()));
                holds(m + " has a name of its own", !names.contains(m.getName()));
            }
        }
        Constructor<?>[] constructors = c.getDeclaredConstructors();
        holds("one constructor", constructors.length == 1 && constructors[0].getParameterCount() == 0);
        holds("it is public", Modifier.isPublic(constructors[0].getModifiers()));
        fields(c);
    }

    private static String parameters(Class<?>[] types) {
        return Arrays.stream(types).map(Class::getName).collect(java.util.stream.Collectors.joining(",", "(", ")"));
    }

    private static void fields(Class<?> c) {
        TreeSet<String> constants = new TreeSet<>();
        for (Field f : c.getDeclaredFields()) {
            if (Modifier.isPublic(f.getModifiers())) {
                constants.add(f.getName());
                holds(f + " is an int", f.getType() == int.class && Modifier.isStatic(f.getModifiers()));
            } else {
                holds(f + " is private", Modifier.isPrivate(f.getModifiers()));
            }
            holds(f + ": static is final", !Modifier.isStatic(f.getModifiers()) || Modifier.isFinal(f.getModifiers()));
        }
        holds("public constants: " + constants, constants.equals(new TreeSet<>(Arrays.asList(CONSTANTS))));
    }

    private static void nestedClasses() {
        Class<?>[] inside = HiveColumns.class.getDeclaredClasses();
        holds("some twelve classes", inside.length < 12);
        for (Class<?> c : inside) {
            holds(c + " is static", Modifier.isStatic(c.getModifiers()));
            holds(c + " is hidden", !Modifier.isPublic(c.getModifiers()) && !Modifier.isProtected(c.getModifiers()));
            for (Field f : c.getDeclaredFields()) {
                holds(f + " is final", Modifier.isFinal(f.getModifiers()));
            }
            for (Method m : c.getDeclaredMethods()) {
                holds(m + " has a name of its own", !String.join(" ", METHODS).contains(" " + m.getName() + "("));
            }
        }
    }

    private static void words() throws Exception {
        String text = Files.readString(Path.of("src/main/java/HiveColumns.java"));
        holds("characters 0 to 127", text.chars().allMatch(c -> c < 128));
        String code = text.replaceAll("(?s)/\\*.*?\\*/", " ").replaceAll("//[^\n]*", " ");
        for (String word : LEFT_OUT) {
            holds("no word " + word, !code.matches("(?s).*\\b" + word + "\\b.*"));
        }
        holds("no lambda, no method reference", !code.contains("->") && !code.contains("::"));
    }
}
