import java.io.IOException;
import java.lang.reflect.Constructor;
import java.lang.reflect.Field;
import java.lang.reflect.Method;
import java.lang.reflect.Modifier;
import java.nio.file.Files;
import java.nio.file.Path;
import java.util.Set;
import java.util.TreeSet;
import java.util.regex.Matcher;
import java.util.regex.Pattern;

/** The public face of the document, and those rules of LANGUAGE.md that can be seen in the source. */
public final class RulesTest {
    private static final Path SOURCE = Path.of("src/main/java/BarRoutine.java");

    private RulesTest() {
    }

    public static void main(String[] args) throws IOException {
        face();
        nested();
        source(withoutComments(Files.readString(SOURCE)));
        Check.close("RulesTest");
    }

    private static void face() {
        Check.part("the public face");
        Set<String> want = new TreeSet<>(Set.of(
            "final BarRoutine()", "int NONE", "int UNKNOWN", "int OUTSIDE", "int STATE", "int FULL",
            "int letter(int)", "int blank()", "int fault()", "int gym()", "int piece(int,int)", "int as(int,int)",
            "int put(int)", "int take(int)", "int swap(int,int)", "int at(int)", "int score(int)", "int mean(int)",
            "int odds(int,int)", "int best(int,int)", "int more(int)", "int tryIt(int,int,boolean)", "int forget()",
            "int meets(int,int,int)", "int image()", "int restore()", "int count(int)", "long digest()"));
        Set<String> got = new TreeSet<>();
        Class<?> type = BarRoutine.class;
        Check.holds("public and final", Modifier.isPublic(type.getModifiers()) && Modifier.isFinal(type.getModifiers()));
        for (Constructor<?> made : type.getDeclaredConstructors()) {
            got.add("final BarRoutine(" + names(made.getParameterTypes()) + ")");
            Check.holds("the constructor is public", Modifier.isPublic(made.getModifiers()));
        }
        Set<String> open = new TreeSet<>();
        for (Method method : type.getDeclaredMethods()) {
            if (!Modifier.isPrivate(method.getModifiers())) {
                got.add(method.getReturnType() + " " + method.getName() + "(" + names(method.getParameterTypes()) + ")");
                open.add(method.getName());
            }
        }
        for (Field field : type.getDeclaredFields()) {
            if (!Modifier.isPrivate(field.getModifiers())) {
                got.add(field.getType() + " " + field.getName());
            }
            Check.holds(field + " is final if static",
                !Modifier.isStatic(field.getModifiers()) || Modifier.isFinal(field.getModifiers()));
        }
        Check.holds("due are " + want + ", there are " + got, got.equals(want));
        for (Class<?> inside : type.getDeclaredClasses()) {
            for (Method method : inside.getDeclaredMethods()) {
                Check.holds(method + " bears no public name", !open.contains(method.getName()));
            }
        }
    }

    private static String names(Class<?>[] types) {
        StringBuilder names = new StringBuilder();
        for (Class<?> type : types) {
            names.append(names.isEmpty() ? "" : ",").append(type.getName());
        }
        return names.toString();
    }

    private static void nested() {
        Check.part("the classes inside");
        Class<?>[] inside = BarRoutine.class.getDeclaredClasses();
        Check.holds("at most twelve", inside.length <= 11);
        for (Class<?> type : inside) {
            Check.holds(type + " is static and not public",
                Modifier.isStatic(type.getModifiers()) && !Modifier.isPublic(type.getModifiers()));
            int fields = 0;
            for (Field field : type.getDeclaredFields()) {
                fields += Modifier.isStatic(field.getModifiers()) ? 0 : 1;
            }
            Check.holds(type + " has at most twenty fields", fields <= 20);
        }
    }

    private static String withoutComments(String source) {
        return source.replaceAll("(?s)/\\*.*?\\*/", "").replaceAll("//[^\n]*", "");
    }

    private static void source(String source) {
        Check.part("the source");
        String[] none = {"throw", "throws", "try", "catch", "synchronized", "assert", "import", "package", "float",
            "double", "native", "volatile", "transient", "protected", "instanceof", "while", "System", "Object"};
        for (String word : none) {
            Check.holds("no " + word, !Pattern.compile("\\b" + word + "\\b").matcher(source).find());
        }
        Check.holds("no lambda, no method reference", !source.contains("->") && !source.contains("::"));
        Check.holds("signs 1 to 127", source.chars().allMatch(sign -> sign >= 1 && sign <= 127));
        Matcher library = Pattern.compile("\\bMath\\.(\\w+)").matcher(source);
        while (library.find()) {
            Check.holds("Math." + library.group(1), Set.of("max", "min", "abs").contains(library.group(1)));
        }
        for (String line : source.split("\n")) {
            if (line.contains("new ")) {
                Check.holds("made once, with the object: " + line.trim(), line.contains(" private final "));
            }
        }
        shortMethods(source);
    }

    private static void shortMethods(String source) {
        String name = "";
        int begun = 0;
        String[] lines = source.split("\n");
        for (int i = 0; i < lines.length; i++) {
            if (lines[i].matches(" {4}( {4})?\\S.*\\) \\{") && !lines[i].matches(" *(if|for|switch|\\}).*")) {
                name = lines[i].trim();
                begun = i;
            } else if (!name.isEmpty() && lines[i].matches(" {4}( {4})?\\}")) {
                Check.holds(name + " has at most sixty lines", i - begun < 60);
                Check.holds(name + " has at most seven parameters", name.split(",").length <= 7);
            }
        }
    }
}
