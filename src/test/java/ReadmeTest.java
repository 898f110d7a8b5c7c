import java.io.IOException;
import java.lang.reflect.Method;
import java.nio.file.Files;
import java.nio.file.Path;
import java.util.ArrayList;
import java.util.HashMap;
import java.util.HashSet;
import java.util.List;
import java.util.Map;
import java.util.Set;
import java.util.regex.Matcher;
import java.util.regex.Pattern;
import java.util.stream.Stream;

/** The calls, texts and tests that README.md shows: each is what README.md says of it. */
public final class ReadmeTest {
    private static final Check CHECK = new Check();
    private static final String MAKING = "SliceViews x = new SliceViews();";
    private static final Pattern CALL = Pattern.compile(
        "(?:(int|long) (\\w+) = )?x\\.(\\w+)\\(([^()]*)\\);\\s*// (-?\\d+)(?:: (.*))?");
    private static final Pattern FED = Pattern.compile("the text \"([^\"]*)\"");
    private static final List<Integer> CODES = List.of(-1, -2, -3, -5, -12, -14, -20);

    private static final Map<String, Long> NAMES = new HashMap<>();
    private static final Set<String> SHOWN = new HashSet<>();
    private static final Set<Long> ANSWERS = new HashSet<>();
    private static SliceViews object = null;
    private static int calls = 0;

    public static void main(String[] args) throws Exception {
        List<String> lines = Files.readAllLines(Path.of("README.md"));
        for (String line : codeLines(lines)) {
            doLine(line);
        }
        everythingIsShown();
        for (String[] row : rowsBelow(lines, "| text | sizes | cells |")) {
            viewOfTwelve(row[0], row[1], row[2]);
        }
        for (String[] row : rowsBelow(lines, "| text | place | why |")) {
            faultOfTwelve(row[0], row[1]);
        }
        testsAreNamed(String.join("\n", lines));
        CHECK.end();
    }

    private static List<String> codeLines(List<String> lines) {
        List<String> out = new ArrayList<>();
        boolean inside = false;
        for (String line : lines) {
            if (line.startsWith("```")) {
                inside = line.equals("```java");
            } else if (inside && !line.isBlank()) {
                out.add(line);
            }
        }
        return out;
    }

    private static void doLine(String line) throws Exception {
        if (line.equals(MAKING)) {
            object = new SliceViews();
            calls = 0;
            return;
        }
        Matcher call = CALL.matcher(line);
        CHECK.due("a call with its answer: " + line, call.matches() ? 1 : 0, 1);
        if (!call.matches() || object == null) {
            return;
        }
        List<Long> with = numbers(call.group(4));
        Method method = methodNamed(call.group(3));
        long answer = answerOf(method, with);
        CHECK.due(line, answer, Long.parseLong(call.group(5)));
        if (call.group(1) != null) {
            CHECK.dueText("the type in: " + line, call.group(1), method.getReturnType().getName());
            NAMES.put(call.group(2), answer);
        }
        if (method.getName().equals("feed")) {
            fedIsTheText(line, with);
        }
    }

    private static List<Long> numbers(String told) {
        return told.isBlank() ? List.of() : Stream.of(told.split(", ")).map(ReadmeTest::number).toList();
    }

    private static long number(String word) {
        return NAMES.containsKey(word) ? NAMES.get(word) : Long.decode(word);
    }

    private static Method methodNamed(String name) {
        return Stream.of(SliceViews.class.getMethods()).filter(m -> m.getName().equals(name)).findFirst().orElseThrow();
    }

    private static long answerOf(Method method, List<Long> with) throws Exception {
        Object[] given = new Object[with.size()];
        for (int i = 0; i < given.length; i++) {
            given[i] = method.getParameterTypes()[i] == long.class ? (Object) with.get(i) : (Object) with.get(i).intValue();
        }
        long answer = ((Number) method.invoke(object, given)).longValue();
        SHOWN.add(method.getName());
        ANSWERS.add(answer);
        calls++;
        CHECK.due("more calls than promised", calls > Pair.LAST ? 1 : 0, 0);
        return answer;
    }

    private static void fedIsTheText(String line, List<Long> five) {
        Matcher said = FED.matcher(line);
        CHECK.due("says its text: " + line, said.find() ? 1 : 0, 1);
        StringBuilder bytes = new StringBuilder();
        for (long four : five) {
            for (int shift = 24; shift >= 0; shift -= 8) {
                bytes.append((char) (four >> shift & 255));
            }
        }
        CHECK.dueText("the text of " + line, bytes.toString().replace("\0", ""), said.group(1));
    }

    private static void everythingIsShown() {
        for (Method m : SliceViews.class.getDeclaredMethods()) {
            boolean hidden = java.lang.reflect.Modifier.isPrivate(m.getModifiers());
            CHECK.due("shown: " + m, hidden || SHOWN.contains(m.getName()) ? 1 : 0, 1);
        }
        for (int code : CODES) {
            CHECK.due("a call that answers " + code, ANSWERS.contains((long) code) ? 1 : 0, 1);
        }
    }

    private static List<String[]> rowsBelow(List<String> lines, String head) {
        int from = lines.indexOf(head);
        List<String[]> out = new ArrayList<>();
        for (int n = from + 2; from >= 0 && n < lines.size() && lines.get(n).startsWith("|"); n++) {
            String[] columns = lines.get(n).substring(1).split("\\|", -1);
            out.add(new String[] {textIn(columns[0].strip()), columns[1].strip(), columns[2].strip()});
        }
        CHECK.due("rows below " + head, out.isEmpty() ? 0 : 1, 1);
        return out;
    }

    private static String textIn(String column) {
        return column.equals("(no text)") ? "" : column.substring(1, column.length() - 1);
    }

    private static SliceViews twelve() {
        SliceViews x = new SliceViews();
        Check.grid(x, 3, 4);
        for (int n = 0; n < 12; n++) {
            Check.put(x, 1, n, n / 4, n % 4);
        }
        return x;
    }

    private static void viewOfTwelve(String text, String sizes, String cells) {
        SliceViews x = twelve();
        CHECK.due("the view '" + text + "'", Check.view(x, 1, text), 2);
        String want = "(" + sizes.replace(' ', ',') + ")" + (cells.isEmpty() ? "" : " " + cells);
        CHECK.dueText("the view '" + text + "'", Check.shown(x, 2), want);
    }

    private static void faultOfTwelve(String text, String place) {
        SliceViews x = twelve();
        CHECK.due("the faulty '" + text + "'", Check.view(x, 1, text), -20);
        CHECK.due("the place in '" + text + "'", x.place(), Integer.parseInt(place));
    }

    private static void testsAreNamed(String readme) throws IOException {
        try (Stream<Path> files = Files.list(Path.of("src/test/java"))) {
            for (Path file : files.toList()) {
                String name = file.getFileName().toString().replace(".java", "");
                CHECK.due("README.md names " + name, readme.contains("`" + name + "`") ? 1 : 0, 1);
            }
        }
    }
}
