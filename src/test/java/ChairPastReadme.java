import java.io.IOException;
import java.io.StringWriter;
import java.lang.reflect.Method;
import java.lang.reflect.Modifier;
import java.net.URL;
import java.net.URLClassLoader;
import java.nio.file.Files;
import java.nio.file.Path;
import java.util.Comparator;
import java.util.List;
import java.util.Map;
import java.util.Set;
import java.util.TreeMap;
import java.util.TreeSet;
import java.util.regex.Matcher;
import java.util.regex.Pattern;
import java.util.stream.Collectors;
import java.util.stream.Stream;
import javax.tools.JavaCompiler;
import javax.tools.ToolProvider;

/** What README.md says is so: its Java compiles and answers as told, its tables and lists are whole. */
public final class ChairPastReadme {
    private static final Path README = Path.of("README.md"), DOC = Path.of("../shared/DOC.md");
    private static final Path TESTS = Path.of("src/test/java");
    private static final Pattern PIECE = Pattern.compile("(?s)```java\n(.*?)```");
    private static final Pattern CALL = Pattern.compile("^(x\\.(\\w+)\\(.*?\\)); *// (-?\\d+|[A-Z]+): .+$");
    private static final Pattern TABLED = Pattern.compile("(?m)^\\| `(\\w+)\\(([^)]*)\\)` \\|");
    private static final Pattern FACE = Pattern.compile("(?m)^    public int (\\w+)\\(([^)]*)\\);$");
    private static final Pattern PATHS =
            Pattern.compile("src/[\\w/]+(?:\\.java)?|\\.ci/run|NOTES\\.md|\\.\\./shared[\\w/.]*\\w");
    private static final int MOST_CALLS = 512;

    private static int wrong = 0;

    private static void so(boolean is, String what) {
        if (!is) {
            wrong++;
            System.out.println("README.md: " + what);
        }
    }

    /** Called by the program that is made of the page's pieces. */
    public static void due(String call, int got, int want) {
        so(got == want, call + " answers " + got + ", not " + want);
    }

    private static String programOf(String page) {
        StringBuilder program = new StringBuilder("public final class Page { public static void run() {\n");
        int calls = 0;
        Matcher pieces = PIECE.matcher(page);
        while (pieces.find()) {
            for (String line : pieces.group(1).split("\n")) {
                Matcher call = CALL.matcher(line);
                if (call.matches()) {
                    calls++;
                    String want = call.group(3);
                    String number = Character.isLetter(want.charAt(0)) ? "ChairPast." + want : want;
                    program.append("ChairPastReadme.due(\"" + call.group(1) + "\", " + call.group(1) + ", " + number
                            + ");\n");
                } else {
                    so(!line.contains("//"), "no answer to compare in: " + line);
                    program.append(line).append('\n');
                }
            }
        }
        so(calls > 0 && calls < MOST_CALLS, calls + " calls are shown");
        return program.append("} }\n").toString();
    }

    private static void pieces(String page) throws IOException, ReflectiveOperationException {
        JavaCompiler javac = ToolProvider.getSystemJavaCompiler();
        so(javac != null, "there is no compiler for its pieces");
        if (javac == null) {
            return;
        }
        Path place = Files.createTempDirectory("readme");
        Path file = place.resolve("Page.java");
        Files.writeString(file, programOf(page));
        StringWriter said = new StringWriter();
        List<String> options = List.of("-cp", System.getProperty("java.class.path"), "-d", place.toString());
        boolean compiled = javac.getTask(said, null, null, options, null,
                javac.getStandardFileManager(null, null, null).getJavaFileObjects(file)).call();
        so(compiled, "its pieces do not compile: " + said);
        if (compiled) {
            try (URLClassLoader loader = new URLClassLoader(new URL[] {place.toUri().toURL()})) {
                loader.loadClass("Page").getMethod("run").invoke(null);
            }
        }
        try (Stream<Path> all = Files.walk(place)) {
            for (Path one : all.sorted(Comparator.reverseOrder()).collect(Collectors.toList())) {
                Files.delete(one);
            }
        }
    }

    private static Map<String, String> callsBy(Pattern pattern, String text) {
        Map<String, String> calls = new TreeMap<>();
        Matcher m = pattern.matcher(text);
        while (m.find()) {
            String before = calls.put(m.group(1), m.group(2).replace("int ", ""));
            so(before == null, m.group(1) + " stands twice");
        }
        return calls;
    }

    private static void tableOfCalls(String page) throws IOException {
        Map<String, String> tabled = callsBy(TABLED, page);
        Set<String> there = new TreeSet<>();
        for (Method m : ChairPast.class.getDeclaredMethods()) {
            if (Modifier.isPublic(m.getModifiers())) {
                there.add(m.getName());
            }
        }
        so(tabled.keySet().equals(there), "its table has the calls " + tabled.keySet());
        if (Files.exists(DOC)) {
            Map<String, String> told = callsBy(FACE, Files.readString(DOC));
            so(tabled.equals(told), "its table has " + tabled + ", the document " + told);
        }
    }

    private static void answers(String page) {
        so(page.contains("`NONE` " + ChairPast.NONE), "the number of NONE");
        so(page.contains("`BAD` " + ChairPast.BAD), "the number of BAD");
        so(page.contains("`STATE` " + ChairPast.STATE), "the number of STATE");
        so(page.contains("`FULL` " + ChairPast.FULL), "the number of FULL");
    }

    private static void listOfTests(String page) throws IOException {
        Set<String> there = new TreeSet<>();
        try (Stream<Path> files = Files.list(TESTS)) {
            files.forEach(file -> there.add(file.getFileName().toString().replace(".java", "")));
        }
        Set<String> listed = new TreeSet<>();
        Matcher m = Pattern.compile("(?m)^- `(\\w+)`:").matcher(page);
        while (m.find()) {
            listed.add(m.group(1));
        }
        so(listed.equals(there), "its list has the tests " + listed + ", there are " + there);
    }

    /** A path that the page names in the project must be there. */
    private static void paths(String page) {
        Matcher m = PATHS.matcher(page);
        while (m.find()) {
            so(Files.exists(Path.of(m.group())), "there is no " + m.group());
        }
        so(Files.isExecutable(Path.of(".ci/run")), ".ci/run cannot be run");
    }

    public static void main(String[] args) throws IOException, ReflectiveOperationException {
        String page = Files.readString(README);
        pieces(page);
        tableOfCalls(page);
        answers(page);
        listOfTests(page);
        paths(page);
        System.out.println(wrong == 0 ? "what README.md says is so" : wrong + " things in README.md are not so");
        if (wrong != 0) {
            System.exit(1);
        }
    }
}
