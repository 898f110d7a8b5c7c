import java.io.IOException;
import java.lang.reflect.Constructor;
import java.lang.reflect.Field;
import java.lang.reflect.Method;
import java.lang.reflect.Modifier;
import java.nio.file.Files;
import java.nio.file.Path;
import java.util.ArrayList;
import java.util.Arrays;
import java.util.List;
import java.util.Set;
import java.util.TreeSet;
import java.util.regex.Matcher;
import java.util.regex.Pattern;

/** The document's face and those rules of LANGUAGE.md that a look at the class or its text can tell. */
public final class FaceTest {
    private static final Check CHECK = new Check();
    private static final List<String> FACE = List.of(
        "int feed(int,int,int,int,int)", "int end(int)", "int axis(int)", "int at(int)", "int grid()",
        "int put(int,long)", "long get(int)", "long cell(int,int)", "int code()", "int axes(int)",
        "int size(int,int)", "int cells(int)", "int view(int)", "int place()", "int turned(int,int,int)",
        "int spread(int)", "int shaped(int)", "int copy(int,int)", "int shares(int,int)");

    public static void main(String[] args) throws IOException {
        publicFace();
        privateNames();
        innerClasses();
        parameters();
        String code = codeOfTheClass();
        wordsLeftOut(code);
        libraryNames(code);
        methodLengths(code);
        CHECK.end();
    }

    private static void publicFace() {
        Set<String> seen = new TreeSet<>();
        for (Method m : SliceViews.class.getDeclaredMethods()) {
            if (!Modifier.isPrivate(m.getModifiers())) {
                CHECK.due("public, not static: " + m, m.getModifiers(), Modifier.PUBLIC);
                seen.add(described(m));
            }
        }
        CHECK.dueText("the methods", seen.toString(), new TreeSet<>(FACE).toString());
        for (Field f : SliceViews.class.getDeclaredFields()) {
            CHECK.due("private: " + f, Modifier.isPrivate(f.getModifiers()) ? 1 : 0, 1);
            CHECK.due("final if static: " + f, Modifier.isStatic(f.getModifiers()) && !Modifier.isFinal(f.getModifiers()) ? 1 : 0, 0);
        }
        Constructor<?>[] made = SliceViews.class.getDeclaredConstructors();
        CHECK.due("constructors", made.length, 1);
        CHECK.due("its parameters", made[0].getParameterCount(), 0);
        CHECK.due("public constructor", made[0].getModifiers(), Modifier.PUBLIC);
        CHECK.due("public final class", SliceViews.class.getModifiers(), Modifier.PUBLIC | Modifier.FINAL);
    }

    private static String described(Method m) {
        StringBuilder out = new StringBuilder();
        for (Class<?> type : m.getParameterTypes()) {
            out.append(out.length() == 0 ? "" : ",").append(type.getName());
        }
        return m.getReturnType().getName() + " " + m.getName() + "(" + out + ")";
    }

    private static void privateNames() {
        for (Class<?> inside : SliceViews.class.getDeclaredClasses()) {
            for (Method m : inside.getDeclaredMethods()) {
                CHECK.due("bears a public name: " + m, isFaceName(m.getName()) ? 1 : 0, 0);
            }
        }
        for (Method m : SliceViews.class.getDeclaredMethods()) {
            boolean hidden = Modifier.isPrivate(m.getModifiers());
            CHECK.due("bears a public name: " + m, hidden && isFaceName(m.getName()) ? 1 : 0, 0);
        }
    }

    private static boolean isFaceName(String name) {
        return FACE.stream().anyMatch(m -> m.contains(" " + name + "("));
    }

    private static void innerClasses() {
        Class<?>[] inside = SliceViews.class.getDeclaredClasses();
        CHECK.due("at most twelve classes", inside.length <= 12 ? 1 : 0, 1);
        for (Class<?> c : inside) {
            CHECK.due("static: " + c, Modifier.isStatic(c.getModifiers()) ? 1 : 0, 1);
            CHECK.due("at most twenty fields: " + c, Arrays.stream(c.getDeclaredFields())
                .filter(f -> !Modifier.isStatic(f.getModifiers())).count() <= 20 ? 1 : 0, 1);
        }
    }

    private static void parameters() {
        List<Class<?>> classes = new ArrayList<>(List.of(SliceViews.class.getDeclaredClasses()));
        classes.add(SliceViews.class);
        for (Class<?> c : classes) {
            for (Method m : c.getDeclaredMethods()) {
                CHECK.due("at most seven parameters: " + m, m.getParameterCount() <= 7 ? 1 : 0, 1);
            }
            for (Constructor<?> made : c.getDeclaredConstructors()) {
                CHECK.due("at most seven parameters: " + made, made.getParameterCount() <= 7 ? 1 : 0, 1);
            }
        }
    }

    private static String codeOfTheClass() throws IOException {
        String source = Files.readString(Path.of("src/main/java/SliceViews.java"));
        return source.replaceAll("(?s)/\\*.*?\\*/", "").replaceAll("//[^\n]*", "");
    }

    private static void wordsLeftOut(String code) {
        Matcher found = Pattern.compile("\\b(throw|throws|try|catch|synchronized|assert|package|protected|instanceof|\\w+Exact)\\b|->|::|\"").matcher(code);
        CHECK.dueText("words left out", found.find() ? found.group() : "none", "none");
        Matcher imports = Pattern.compile("import [^;]*;").matcher(code);
        while (imports.find()) {
            CHECK.dueText("import", imports.group(), "import java.util.Arrays;");
        }
    }

    /** What is called by a name with a capital, or on a new thing, is in the list of LANGUAGE.md or an own class. */
    private static void libraryNames(String code) {
        Set<String> listed = Set.of("Arrays.copyOf", "Arrays.copyOfRange", "Arrays.fill", "Math.min", "Math.max", "Math.abs");
        Matcher called = Pattern.compile("\\b([A-Z]\\w*\\.[a-z]\\w*)\\(").matcher(code);
        while (called.find()) {
            CHECK.due("is in the list: " + called.group(1), listed.contains(called.group(1)) ? 1 : 0, 1);
        }
        Set<String> own = Set.of("Collected", "Grid", "Walk", "ItemReader", "Cut", "int", "long", "byte", "boolean");
        Matcher made = Pattern.compile("\\bnew (\\w+)").matcher(code);
        while (made.find()) {
            CHECK.due("may be made: " + made.group(1), own.contains(made.group(1)) ? 1 : 0, 1);
        }
    }

    /** A method begins with a line that ends in "{" and ends with a brace as far in as its first line. */
    private static void methodLengths(String code) {
        String[] lines = code.split("\n");
        for (int n = 0; n < lines.length; n++) {
            String margin = lines[n].substring(0, lines[n].length() - lines[n].stripLeading().length());
            if (lines[n].matches(" +[^=]*\\w\\([^;]*\\) \\{") && !lines[n].contains(" class ")) {
                int end = n;
                while (end < lines.length && !lines[end].equals(margin + "}")) {
                    end++;
                }
                CHECK.due("at most sixty lines: " + lines[n].strip(), end - n <= 60 ? 1 : 0, 1);
            }
        }
    }
}
