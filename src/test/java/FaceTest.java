import java.io.IOException;
import java.lang.reflect.Constructor;
import java.lang.reflect.Field;
import java.lang.reflect.Method;
import java.lang.reflect.Modifier;
import java.nio.file.Files;
import java.nio.file.Path;
import java.util.List;
import java.util.Set;
import java.util.TreeSet;
import java.util.regex.Matcher;
import java.util.regex.Pattern;

/** The public face of the document, and the rules of LANGUAGE.md that a machine can see. */
public final class FaceTest {
    private static final List<String> METHODS = List.of(
        "int thing(int)", "int choice(int, int, long, long)", "boolean must(int)", "boolean budget(int, long)",
        "boolean join(int, int, long)", "boolean district(int, int)", "boolean fair(long)", "int run(long)",
        "boolean chosen(int)", "long worth()", "long bound(int)", "int clash(int)", "boolean proved()",
        "long price(int, int)", "boolean old(int, boolean)", "int changes(long)", "int changed(int)",
        "long backlog(int)", "int rank(int)", "long share(int, int)", "int policy(int)", "long compare(int, int)",
        "int list(int, int)", "int earlier(int)", "boolean holds(int)");
    private static int wrong = 0;

    public static void main(String[] args) throws IOException {
        face();
        inside();
        source(Files.readString(Path.of("src/main/java/WorksBudget.java")));
        System.out.println(wrong == 0 ? "the face is as due" : wrong + " things are not as due");
        if (wrong != 0) {
            System.exit(1);
        }
    }

    private static void due(boolean holds, String what) {
        if (!holds) {
            wrong++;
            System.out.println(what);
        }
    }

    private static String told(Method m) {
        StringBuilder text = new StringBuilder(m.getReturnType() + " " + m.getName() + "(");
        for (Class<?> type : m.getParameterTypes()) {
            text.append(text.charAt(text.length() - 1) == '(' ? "" : ", ").append(type);
        }
        return text.append(")").toString();
    }

    private static void face() {
        due(Modifier.isFinal(WorksBudget.class.getModifiers()), "the class is not final");
        Set<String> found = new TreeSet<>();
        Set<String> names = new TreeSet<>();
        for (Method m : WorksBudget.class.getDeclaredMethods()) {
            if (!Modifier.isPrivate(m.getModifiers())) {
                due(Modifier.isPublic(m.getModifiers()) && !Modifier.isStatic(m.getModifiers()), m + " is not public");
                found.add(told(m));
                names.add(m.getName());
            }
        }
        due(found.equals(new TreeSet<>(METHODS)), "the methods are " + found);
        for (Method m : WorksBudget.class.getDeclaredMethods()) {
            due(Modifier.isPublic(m.getModifiers()) || !names.contains(m.getName()), m + " has a public one's name");
        }
        Constructor<?>[] made = WorksBudget.class.getDeclaredConstructors();
        due(made.length == 1 && Modifier.isPublic(made[0].getModifiers())
            && made[0].getParameterCount() == 1 && made[0].getParameterTypes()[0] == int.class, "the constructor");
        for (Field f : WorksBudget.class.getDeclaredFields()) {
            due(f.getName().equals("BAD") || Modifier.isPrivate(f.getModifiers()), f + " is not private");
            due(!Modifier.isStatic(f.getModifiers()) || Modifier.isFinal(f.getModifiers()), f + " is not final");
        }
    }

    private static void inside() {
        Class<?>[] classes = WorksBudget.class.getDeclaredClasses();
        due(classes.length < 12, "there are too many classes");
        for (Class<?> c : classes) {
            due(Modifier.isStatic(c.getModifiers()), c + " is not static");
            due(c.getDeclaredFields().length <= 20, c + " has too many fields");
            for (Method m : c.getDeclaredMethods()) {
                due(m.getParameterCount() <= 7, m + " takes too much");
                due(METHODS.stream().noneMatch(t -> t.contains(" " + m.getName() + "(")), m + " has a public one's name");
            }
        }
    }

    private static void source(String text) {
        String[] ruledOut = {"import ", "package ", "catch", "throw", "->", "::", "synchronized", "assert", "System.",
            "Exact(", "static {", "finally", "double", "float", "Random", "Thread"};
        for (String word : ruledOut) {
            due(!text.contains(word), "the source has '" + word + "'");
        }
        due(text.chars().allMatch(c -> c < 128), "the source has characters beyond ASCII");
        Matcher library = Pattern.compile("\\b(Math|Integer|Long)\\.(\\w+)").matcher(text);
        Set<String> allowed = Set.of("max", "min", "bitCount", "compare");
        while (library.find()) {
            due(allowed.contains(library.group(2)), library.group() + " is used");
        }
    }
}
