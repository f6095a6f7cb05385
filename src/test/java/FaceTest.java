import java.io.IOException;
import java.lang.reflect.Constructor;
import java.lang.reflect.Field;
import java.lang.reflect.Method;
import java.lang.reflect.Modifier;
import java.nio.charset.StandardCharsets;
import java.nio.file.Files;
import java.nio.file.Path;
import java.util.Arrays;
import java.util.Set;
import java.util.TreeSet;
import java.util.regex.Matcher;
import java.util.regex.Pattern;
import java.util.stream.Collectors;

/** The public face as the document tells it, and those rules of LANGUAGE.md that can be looked up. */
public final class FaceTest {
    private static final Check check = new Check();

    private static final String[] METHODS = {
        "int write(int)", "int wipe()", "int fault()", "int talk()", "int about(int)", "int envoy(int, int)",
        "int clause(int, int)", "int bite()", "int say(int)", "int spice()", "int bread(int)", "int undo()",
        "int lasts()", "int bears(int)", "int best(int, boolean)", "int hot(int, int)", "int spiceFor(int)",
        "int judge(int, int)", "int share(int, boolean)", "int see(int, int, int)", "int unsee()",
        "int palates(int)", "int rests(int, int, int)", "int chance(int, int, int, boolean)", "long seed(long)",
        "int talks(int)", "int keep(int)", "int again(int)"};

    public static void main(String[] args) throws IOException {
        constants();
        face();
        for (Class<?> inside : MustardTreaty.class.getDeclaredClasses()) {
            inside(inside);
        }
        check.holds("some twelve classes at most", MustardTreaty.class.getDeclaredClasses().length <= 11);
        source(Files.readString(Path.of("src/main/java/MustardTreaty.java"), StandardCharsets.ISO_8859_1));
        check.end();
    }

    private static void constants() {
        check.due("UNKNOWN", MustardTreaty.UNKNOWN, -1);
        check.due("BAD", MustardTreaty.BAD, -2);
        check.due("LATE", MustardTreaty.LATE, -3);
        check.due("FULL", MustardTreaty.FULL, -4);
        check.due("NONE", MustardTreaty.NONE, -9);
    }

    private static String told(Method m) {
        return m.getReturnType() + " " + m.getName() + Arrays.stream(m.getParameterTypes()).map(Class::getName)
            .collect(Collectors.joining(", ", "(", ")"));
    }

    private static void face() {
        int modifiers = MustardTreaty.class.getModifiers();
        check.holds("public and final", Modifier.isPublic(modifiers) && Modifier.isFinal(modifiers));
        Set<String> methods = new TreeSet<>();
        Set<String> publicNames = new TreeSet<>();
        for (Method m : MustardTreaty.class.getDeclaredMethods()) {
            if (Modifier.isPublic(m.getModifiers())) {
                methods.add(told(m));
                publicNames.add(m.getName());
                check.holds(m + " is of the object", !Modifier.isStatic(m.getModifiers()));
            }
        }
        check.holds("the document's methods: " + methods, methods.equals(new TreeSet<>(Arrays.asList(METHODS))));
        for (Method m : MustardTreaty.class.getDeclaredMethods()) {
            boolean isPrivate = Modifier.isPrivate(m.getModifiers());
            check.holds(m + " is public or private", isPrivate || Modifier.isPublic(m.getModifiers()));
            check.holds(m + " has a name of its own", !isPrivate || !publicNames.contains(m.getName()));
            check.holds(m + " takes seven at most", m.getParameterCount() <= 7);
        }
        Set<String> fields = new TreeSet<>();
        for (Field f : MustardTreaty.class.getDeclaredFields()) {
            boolean isPrivate = Modifier.isPrivate(f.getModifiers());
            check.holds(f + " is public or private", isPrivate || Modifier.isPublic(f.getModifiers()));
            if (!isPrivate) {
                fields.add(f.getName());
            }
        }
        check.holds("the document's constants: " + fields,
            fields.equals(Set.of("UNKNOWN", "BAD", "LATE", "FULL", "NONE")));
        Constructor<?>[] constructors = MustardTreaty.class.getDeclaredConstructors();
        check.holds("one public constructor of nothing", constructors.length == 1
            && constructors[0].getParameterCount() == 0 && Modifier.isPublic(constructors[0].getModifiers()));
        staticFieldsAreFinal(MustardTreaty.class);
    }

    private static void inside(Class<?> inside) {
        int modifiers = inside.getModifiers();
        check.holds(inside + " is static", Modifier.isStatic(modifiers));
        check.holds(inside + " is not public", !Modifier.isPublic(modifiers) && !Modifier.isProtected(modifiers));
        check.holds(inside + " has no class inside", inside.getDeclaredClasses().length == 0);
        for (Method m : inside.getDeclaredMethods()) {
            check.holds(m + " takes seven at most", m.getParameterCount() <= 7);
            check.holds(m + " has a name of its own",
                Arrays.stream(METHODS).noneMatch(told -> told.contains(" " + m.getName() + "(")));
        }
        staticFieldsAreFinal(inside);
    }

    private static void staticFieldsAreFinal(Class<?> type) {
        int own = 0;
        for (Field f : type.getDeclaredFields()) {
            boolean isStatic = Modifier.isStatic(f.getModifiers());
            check.holds(f + " is final if it is static", !isStatic || Modifier.isFinal(f.getModifiers()));
            own += isStatic ? 0 : 1;
        }
        check.holds(type + " has some twenty fields at most", own <= 20);
    }

    private static void source(String whole) {
        String code = Pattern.compile("/\\*.*?\\*/", Pattern.DOTALL).matcher(whole).replaceAll(" ")
            .replaceAll("//[^\n]*", " ");
        String[] words = {"throw", "throws", "try", "catch", "finally", "synchronized", "assert", "import", "package",
            "native", "volatile", "transient", "strictfp", "protected", "var", "yield", "double", "float"};
        for (String word : words) {
            Matcher m = Pattern.compile("\\b" + word + "\\b").matcher(code);
            check.holds("no '" + word + "'", !m.find());
        }
        check.holds("no lambda", !code.contains("->"));
        check.holds("no method reference", !code.contains("::"));
        check.holds("nothing that ends in Exact", !code.contains("Exact("));
        Matcher library = Pattern.compile("\\b(Math|Integer|Long|System|Arrays|String)\\.(\\w+)").matcher(code);
        while (library.find()) {
            String used = library.group();
            check.holds("the library has " + used, Set.of("Math.max", "Math.min", "Integer.bitCount").contains(used));
        }
    }
}
