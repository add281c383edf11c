import java.io.IOException;
import java.lang.reflect.Constructor;
import java.lang.reflect.Field;
import java.lang.reflect.Method;
import java.lang.reflect.Modifier;
import java.nio.file.Files;
import java.nio.file.Path;
import java.util.ArrayList;
import java.util.List;
import java.util.Set;
import java.util.TreeSet;
import java.util.regex.Matcher;
import java.util.regex.Pattern;

/** The public face, word for word, and the rules of LANGUAGE.md that a program can look at. */
public final class ChairPastFace {
    private static final Path SOURCE = Path.of("src/main/java/ChairPast.java");
    private static final String[] FACE = {
        "row 3", "set 3", "copy 5", "drop 1", "feed 1", "room 0", "fault 0", "sit 2", "rise 1", "recane 1", "move 1",
        "undo 0", "chair 2", "guest 2", "peace 0", "would 3", "seating 1", "warm 4", "pure 2", "between 4", "trios 1",
        "owns 3", "fits 4", "caned 3", "drawn 3", "image 1", "restore 1", "kind 1", "as 2", "ask 2", "trace 1",
        "count 1", "status 0"};
    private static final String[] BANNED = {
        "\\bthrow\\b", "\\bthrows\\b", "\\btry\\b", "\\bcatch\\b", "\\bfinally\\b", "\\bsynchronized\\b", "\\bassert\\b",
        "->", "::", "\\bimport\\b", "\\bpackage\\b", "Exact\\(", "\\bHashMap\\b", "\\bRandom\\b", "\\bThread\\b",
        "System\\.(?!arraycopy)", "\\bstatic\\s*\\{", "\"\\s*\\+|\\+\\s*\"", "hashCode", "toString"};
    private static final int LONGEST_METHOD = 60, MOST_CLASSES = 12, MOST_FIELDS = 20, MOST_PARAMETERS = 7;

    private static int wrong = 0;

    private static void rule(boolean kept, String what) {
        if (!kept) {
            wrong++;
            System.out.println("not kept: " + what);
        }
    }

    private static void face() {
        Class<?> c = ChairPast.class;
        rule(Modifier.isPublic(c.getModifiers()) && Modifier.isFinal(c.getModifiers()), "the class is public, final");
        Set<String> want = new TreeSet<>(List.of(FACE));
        Set<String> got = new TreeSet<>();
        for (Method m : c.getDeclaredMethods()) {
            if (!Modifier.isPrivate(m.getModifiers())) {
                rule(Modifier.isPublic(m.getModifiers()) && !Modifier.isStatic(m.getModifiers()), m.toString());
                rule(m.getReturnType() == int.class, "int " + m.getName());
                for (Class<?> t : m.getParameterTypes()) {
                    rule(t == int.class, "int parameters of " + m.getName());
                }
                got.add(m.getName() + " " + m.getParameterCount());
            }
        }
        rule(got.equals(want), "the face: " + got);
        Constructor<?>[] all = c.getDeclaredConstructors();
        rule(all.length == 1 && Modifier.isPublic(all[0].getModifiers()) && all[0].getParameterCount() == 0,
                "one constructor");
        Set<String> constants = new TreeSet<>();
        for (Field f : c.getDeclaredFields()) {
            if (!Modifier.isPrivate(f.getModifiers())) {
                constants.add(f.getName());
            }
        }
        rule(constants.equals(Set.of("NONE", "BAD", "STATE", "FULL")), "the constants: " + constants);
    }

    private static void classes() {
        List<Class<?>> all = new ArrayList<>(List.of(ChairPast.class.getDeclaredClasses()));
        all.add(ChairPast.class);
        rule(all.size() <= MOST_CLASSES, "at most twelve classes, not " + all.size());
        Set<String> names = new TreeSet<>();
        for (String entry : FACE) {
            names.add(entry.substring(0, entry.indexOf(' ')));
        }
        for (Class<?> c : all) {
            rule(c == ChairPast.class || Modifier.isStatic(c.getModifiers()), c + " is static");
            int own = 0;
            for (Field f : c.getDeclaredFields()) {
                if (Modifier.isStatic(f.getModifiers())) {
                    rule(Modifier.isFinal(f.getModifiers()), f + " is final");
                } else {
                    own++;
                }
            }
            rule(own <= MOST_FIELDS, c + " has " + own + " fields");
            for (Method m : c.getDeclaredMethods()) {
                rule(m.getParameterCount() <= MOST_PARAMETERS, m + " takes too many");
                rule(Modifier.isPublic(m.getModifiers()) || !names.contains(m.getName()), m + " bears a public name");
            }
        }
    }

    private static void words(String source) {
        String bare = source.replaceAll("(?s)/\\*.*?\\*/", " ").replaceAll("//[^\n]*", " ");
        for (String word : BANNED) {
            Matcher m = Pattern.compile(word).matcher(bare);
            rule(!m.find(), "no " + word);
        }
        for (int i = 0; i < source.length(); i++) {
            char c = source.charAt(i);
            if (c > 126 || c < 32 && c != '\n') {
                rule(false, "plain signs alone, not number " + (int) c);
            }
        }
    }

    private static void lengths(String source) {
        String[] lines = source.split("\n");
        for (int i = 0; i < lines.length; i++) {
            rule(lines[i].length() <= 120, "line " + (i + 1) + " is too long");
            Matcher head = Pattern.compile("^( {4}| {8})[^ */].*\\) \\{$").matcher(lines[i]);
            if (head.find() && !lines[i].contains(" class ")) {
                int end = i;
                while (end < lines.length && !lines[end].equals(head.group(1) + "}")) {
                    end++;
                }
                rule(end - i < LONGEST_METHOD, "line " + (i + 1) + ": the method is too long");
            }
        }
    }

    /** All calls with all kinds of wrong numbers, with and without a room: none may throw. */
    private static void nothingIsThrown() throws ReflectiveOperationException {
        int[] values = {Integer.MIN_VALUE, -1000000, -1, 0, 1, 4, 5, 9, 41, Integer.MAX_VALUE};
        for (String text : new String[] {"", "a9;d9,16,3;", "a4;p7,16,1;r2,10,1;b9,8,1;t3,16,1;d1,0,1;z0,3;z9,1;"}) {
            for (Method m : ChairPast.class.getDeclaredMethods()) {
                if (!Modifier.isPublic(m.getModifiers())) {
                    continue;
                }
                ChairPast x = new ChairPast();
                for (char letter : text.toCharArray()) {
                    x.feed(letter);
                }
                x.room();
                x.row(0, 0, 9);
                x.sit(1, 2);
                int ways = (int) Math.pow(values.length, m.getParameterCount());
                for (int way = 0; way < ways; way++) {
                    Object[] arguments = new Object[m.getParameterCount()];
                    int rest = way;
                    for (int i = 0; i < arguments.length; i++) {
                        arguments[i] = values[rest % values.length];
                        rest /= values.length;
                    }
                    m.invoke(x, arguments);
                }
            }
        }
    }

    public static void main(String[] args) throws IOException, ReflectiveOperationException {
        String source = Files.readString(SOURCE);
        face();
        classes();
        words(source);
        lengths(source);
        nothingIsThrown();
        System.out.println(wrong == 0 ? "the face and the rules are kept" : wrong + " rules are not kept");
        if (wrong != 0) {
            System.exit(1);
        }
    }
}
