import java.io.IOException;
import java.lang.reflect.Method;
import java.nio.file.Files;
import java.nio.file.Path;
import java.util.ArrayList;
import java.util.List;
import java.util.Map;
import java.util.Set;
import java.util.TreeMap;
import java.util.TreeSet;

/**
 * Each sentence of the document that names a boundary case, in its own words, by its promise's number, with runs of
 * calls that fail if it does not hold.
 *
 * A run is on a new object, its calls stand between blanks: "sit(0,1)=7" is a call and the answer that is due;
 * "drop(0..7)=NULL", "feed(-1|256)=BAD" are several calls, with one answer or with one for each; "24*move(0)=5" is a
 * call again and again, the last answer being due; "[a1;p1,1,1;]=1" feeds a text and reads it, "{a1;}=3" feeds it
 * alone (a byte by its number: <32>); @4 is a FAULT at place 4, b0.3 are the bits 0 and 3.
 */
public final class ChairPastEdges {
    private static final Map<String, Integer> NAMES = Map.ofEntries(
            Map.entry("NONE", -1000000), Map.entry("BAD", -1000001), Map.entry("STATE", -1000002),
            Map.entry("FULL", -1000003), Map.entry("NULL", -1000011), Map.entry("PLACE", -1000012),
            Map.entry("KIND", -1000013), Map.entry("SIZE", -1000014), Map.entry("STORE", -1000015),
            Map.entry("MIN", Integer.MIN_VALUE), Map.entry("MAX", Integer.MAX_VALUE));
    private static final int FAULT = -1000100, MOST_CALLS = 512, PROMISES = 34;

    /** A room of all kinds. */
    private static final String FIVE = "a4;p7,16,1;r2,10,1;b9,8,1;t3,16,2;d1,0,2;z0,3;z9,1;z5,9;z4,5;";
    private static final String ROOM = "[" + FIVE + "]=5 ";
    /** Where an ITEM from 0 to 9 of any ROW can be seen: fits(0, row, i, 0) is its bit. */
    private static final String SEEN = "[a0;t5,16,0;z1,1;]=1 ";

    private static final Map<String, Method> CALLS = new TreeMap<>();
    private static final Set<Integer> COVERED = new TreeSet<>();
    private static final Set<String> QUOTED = new TreeSet<>();
    private static String document = null;
    private static int looked = 0;
    private static int wrong = 0;

    // ---- how runs are done

    /** One run: the object, what has been asked of it, and for which sentence. */
    private static final class Run {
        final ChairPast x = new ChairPast();
        final String where;
        final List<String> answers = new ArrayList<>();
        int calls = 0;

        Run(String where) {
            this.where = where;
        }

        void go(String run) {
            for (String item : run.trim().split("\\s+")) {
                if (!item.isEmpty()) {
                    doItem(item);
                }
            }
        }

        private void doItem(String item) {
            int equals = item.lastIndexOf('=');
            String call = equals < 0 ? item : item.substring(0, equals);
            String[] dues = equals < 0 ? null : item.substring(equals + 1).split(",");
            char first = call.charAt(0);
            if (first == '[' || first == '{') {
                int got = feed(call.substring(1, call.length() - 1));
                if (first == '[') {
                    got = ask("room", new int[0]);
                }
                look(call, got, dues, 0, 1);
                return;
            }
            int star = call.indexOf('*');
            int times = star < 0 ? 1 : Integer.parseInt(call.substring(0, star));
            String name = call.substring(star + 1, call.indexOf('('));
            String inner = call.substring(call.indexOf('(') + 1, call.length() - 1);
            List<int[]> ways = ways(inner);
            for (int way = 0; way < ways.size(); way++) {
                int got = 0;
                for (int i = 0; i < times; i++) {
                    got = ask(name, ways.get(way));
                }
                look(name + asText(ways.get(way)), got, dues, way, ways.size());
            }
        }

        private int feed(String text) {
            int got = 0;
            for (int i = 0; i < text.length(); i++) {
                int letter = text.charAt(i);
                if (letter == '<') {
                    int end = text.indexOf('>', i);
                    letter = Integer.parseInt(text.substring(i + 1, end));
                    i = end;
                }
                got = ask("feed", new int[] {letter});
            }
            return got;
        }

        private int ask(String name, int[] arguments) {
            Object[] boxed = new Object[arguments.length];
            for (int i = 0; i < boxed.length; i++) {
                boxed[i] = arguments[i];
            }
            calls++;
            try {
                return (int) CALLS.get(name).invoke(x, boxed);
            } catch (ReflectiveOperationException | RuntimeException e) {
                complain(where, name + asText(arguments) + " threw " + e.getCause());
                return 0;
            }
        }

        private void look(String call, int got, String[] dues, int way, int ways) {
            answers.add(call + " = " + got);
            if (dues == null) {
                return;
            }
            if (dues.length != 1 && dues.length != ways) {
                complain(where, call + " has " + dues.length + " answers for " + ways + " calls");
                return;
            }
            looked++;
            int due = value(dues[dues.length == 1 ? 0 : way]);
            if (got != due) {
                complain(where, call + " answered " + got + ", due is " + due);
            }
        }
    }

    private static void complain(String where, String what) {
        wrong++;
        if (wrong <= 60) {
            System.out.println(where + ": " + what);
        }
    }

    private static String asText(int[] arguments) {
        StringBuilder s = new StringBuilder("(");
        for (int i = 0; i < arguments.length; i++) {
            s.append(i == 0 ? "" : ", ").append(arguments[i]);
        }
        return s.append(")").toString();
    }

    private static int value(String word) {
        if (NAMES.containsKey(word)) {
            return NAMES.get(word);
        }
        if (word.charAt(0) == '@') {
            return FAULT - Integer.parseInt(word.substring(1));
        }
        if (word.charAt(0) == 'b') {
            int bits = 0;
            for (String bit : word.substring(1).split("\\.")) {
                bits |= 1 << Integer.parseInt(bit);
            }
            return bits;
        }
        return Integer.parseInt(word);
    }

    /** All rows of arguments that a call's text tells, the last argument changing first. */
    private static List<int[]> ways(String inner) {
        List<int[]> out = new ArrayList<>();
        out.add(new int[0]);
        if (inner.isEmpty()) {
            return out;
        }
        for (String argument : inner.split(",")) {
            List<int[]> longer = new ArrayList<>();
            for (int[] head : out) {
                for (int v : choices(argument)) {
                    int[] row = java.util.Arrays.copyOf(head, head.length + 1);
                    row[head.length] = v;
                    longer.add(row);
                }
            }
            out = longer;
        }
        return out;
    }

    private static List<Integer> choices(String argument) {
        List<Integer> out = new ArrayList<>();
        for (String part : argument.split("\\|")) {
            int dots = part.indexOf("..");
            if (dots < 0) {
                out.add(value(part));
            } else {
                for (int v = value(part.substring(0, dots)); v <= value(part.substring(dots + 2)); v++) {
                    out.add(v);
                }
            }
        }
        return out;
    }

    private static String quote(int promise, String sentence) {
        COVERED.add(promise);
        QUOTED.add(sentence);
        String where = "promise " + promise + ", \"" + sentence + "\"";
        if (document != null && !document.contains(sentence)) {
            complain(where, "the document does not say so");
        }
        return where;
    }

    private static void edge(int promise, String sentence, String... runs) {
        String where = quote(promise, sentence);
        for (String text : runs) {
            Run run = new Run(where);
            run.go(text);
            if (run.calls > MOST_CALLS) {
                complain(where, "a run of " + run.calls + " calls");
            }
        }
    }

    private static void edge(int promise, String sentence, List<String> runs) {
        edge(promise, sentence, runs.toArray(new String[0]));
    }

    // ---- what changes nothing

    /** Much of all that there can be: rows, acts, images, a fault, a trace, a finding; the tape is empty. */
    private static final String MUCH = "row(0,0,3)=3 set(0,0,1)=1 set(0,1,2)=2 set(0,2,3)=3 row(1,1,2)=2 set(1,0,4)=4 "
            + "set(1,1,5)=5 row(2,2,0)=0 [a10;]=@1 [a5;t1,16,0;z2,2;]=1 image(1)=1 " + ROOM + "sit(0,0)=7 "
            + "sit(1,1)=4 sit(2,2)=2 rise(1)=1 recane(3)=16 move(3)=0 image(0)=1 sit(1,1)=9 ask(2,0)=-978 "
            + "drop(5)=NULL ";
    private static final String TAPE = "{a0;t5,16,0;z1,1;}=16 ";
    /** All that can be seen of it, and last what is on the tape and in the rows. */
    private static final String ALL_SEEN = "count(0..7) chair(0..5,0..4) kind(0..5) guest(0..4,0..3) peace() fault() "
            + "trace(0..7) undo() chair(0..4,1) guest(0..3,2..3) undo() chair(0..4,0..1) undo() chair(0..4,1) undo() "
            + "guest(0..3,3) restore(0) count(1..6) chair(0..4,0..1) guest(0..3,2..3) restore(1) count(1..6) "
            + "chair(0,0..4) room() fault() [a0;t5,16,0;z1,1;] fits(0,0,0..2,0) fits(0,1,0..1,0) fits(0,2,0,0) "
            + "set(0..1,0,70000) drop(0..7) ";

    /** Each of the calls is made behind the same run; all that is seen then is as if it had not been made. */
    private static void unchanged(int promise, String sentence, String before, String calls) {
        String where = quote(promise, sentence);
        Run without = new Run(where);
        without.go(before);
        int statusBefore = without.x.status();
        without.go(ALL_SEEN);
        for (String call : calls.trim().split("\\s+")) {
            Run with = new Run(where + " by " + call);
            with.go(before);
            int told = with.answers.size();
            with.go(call);
            int extra = with.answers.size() - told;
            lookAtStatus(with, statusBefore, with.answers.get(with.answers.size() - 1));
            with.go(ALL_SEEN);
            List<String> seen = new ArrayList<>(with.answers);
            for (int i = 0; i < extra; i++) {
                seen.remove(told);
            }
            compare(with.where, without.answers, seen);
            if (with.calls > MOST_CALLS) {
                complain(with.where, "a run of " + with.calls + " calls");
            }
        }
    }

    private static void lookAtStatus(Run run, int before, String last) {
        int answer = Integer.parseInt(last.substring(last.lastIndexOf(' ') + 1));
        boolean refused = answer <= -1000001 && answer >= -1000003;
        boolean found = answer <= -1000011 && answer >= -1000015;
        looked++;
        if (refused && run.x.status() != before || found && run.x.status() != -1000010 - answer) {
            complain(run.where, "status() answered " + run.x.status());
        }
    }

    private static void compare(String where, List<String> due, List<String> got) {
        for (int i = 0; i < due.size() && i < got.size(); i++) {
            looked++;
            if (!due.get(i).equals(got.get(i))) {
                complain(where, got.get(i) + ", but it was " + due.get(i));
                return;
            }
        }
        if (due.size() != got.size()) {
            complain(where, "not as many answers");
        }
    }

    // ---- rows

    private static void newObject() {
        edge(1, "NONE = -1000000, BAD = -1000001, STATE = -1000002, FULL = -1000003", "trace(0)=" + ChairPast.NONE,
                "count(8)=" + ChairPast.BAD, "peace()=" + ChairPast.STATE, "100*feed(0)=100 feed(0)=" + ChairPast.FULL,
                "trace(0)=-1000000 count(8)=-1000001 peace()=-1000002 100*feed(0)=100 feed(0)=-1000003");
        edge(1, "No ROOM.", "count(0..7)=0", "peace()=STATE seating(-1)=STATE trios(0)=STATE caned(0,0,0)=STATE",
                "drawn(0,1,0)=STATE image(0..1)=STATE undo()=STATE restore(0..1)=STATE", "fault()=0 status()=0",
                "trace(0)=NONE kind(0)=BAD chair(0,0)=BAD guest(0,0)=BAD as(0,0)=BAD ask(0,0)=BAD move(0)=BAD");
        edge(1, "are missing (at first)", "count(0)=0 drop(0..7)=NULL", "set(0..7,0,0)=NULL");
        edge(1, "(none at first)", "count(1..2)=0 peace()=STATE");
        for (int last = 510; last <= 511; last++) {
            edge(1, "An object is used for at most 512 calls after it has been made",
                    ROOM + "" + (last - FIVE.length() - 1) + "*peace()=0 " + "sit(0,0)=7");
        }
    }

    private static void row() {
        edge(2, "ROWS 0 .. 7", "row(0..7,0,1)=1 count(0)=8", "row(-1|8|MIN|MAX,0,1)=BAD count(0)=0");
        edge(2, "have a LANE (0 bytes, 1 shorts, 2 ints)", "row(0,0..2,1)=1", "row(0,-1|3|MIN|MAX,1)=BAD count(0)=0",
                "row(0,0,1)=1 set(0,0,70000)=112", "row(0,1,1)=1 set(0,0,70000)=4464",
                "row(0,2,1)=1 set(0,0,70000)=70000");
        edge(2, "0 to 40 ITEMS", "row(0,0,0)=0 count(0)=1 drop(0)=0", "row(7,2,40)=40 set(7,39,9)=9 drop(7)=40");
        edge(2, "ITEMS, 0 at first.", SEEN + "row(0,0,40)=40 fits(0,0,0..39,0)=b0",
                SEEN + "row(0,0,3)=3 set(0,0..2,7)=7 row(0,0,3)=3 fits(0,0,0..2,0)=b0",
                SEEN + "row(0,0,3)=3 set(0,0..2,7)=7 row(0,1,1)=1 row(0,2,3)=3 fits(0,0,0..2,0)=b0",
                SEEN + "row(0,0,3)=3 set(0,0..2,7)=7 drop(0)=3 row(0,0,3)=3 fits(0,0,0..2,0)=b0");
        edge(2, "BAD: ROW, LANE, n above 40; SIZE.", "row(0,0..2,41)=BAD count(0)=0", "row(0,0,MAX)=BAD row(0,0,40)=40",
                "row(8,0,40)=BAD row(0,3,40)=BAD row(0,0,41)=BAD row(0,0,-1)=SIZE");
        edge(2, "SIZE (fewer than none)", "row(0,0..2,-1)=SIZE count(0)=0 status()=4", "row(7,0,MIN)=SIZE status()=4",
                "row(0,0,0)=0 status()=0");
        edge(2, "in place of what is there: n.",
                "row(0,2,5)=5 set(0,4,70000)=70000 row(0,0,2)=2 count(0)=1 set(0,2,1)=PLACE set(0,1,200)=-56 drop(0)=2",
                "row(0,0,2)=2 row(0,2,5)=5 set(0,4,70000)=70000 drop(0)=5",
                "row(0,0,2)=2 row(0,0,0)=0 set(0,0,1)=PLACE");
        edge(2, "Refusals are answers, the first of these that fits", "row(8,0,-1)=BAD row(0,3,-1)=BAD status()=0");
        unchanged(2, "What is refused, or found, changes nothing but status().", MUCH + TAPE,
                "row(-1|8,0,1)=BAD row(0,-1|3,1)=BAD row(0,0,41)=BAD row(0,2,-1)=SIZE row(5,0,-1)=SIZE");
    }

    private static void set() {
        edge(3, "its lowest bits, as many as the LANE has: what it is then.",
                "row(0,0,1)=1 set(0,0,127|128|255|256)=127,-128,-1,0",
                "row(0,0,1)=1 set(0,0,-128|-129|MAX|MIN)=-128,127,-1,0",
                "row(0,1,1)=1 set(0,0,32767|32768|65535|65536)=32767,-32768,-1,0",
                "row(0,1,1)=1 set(0,0,-32768|-32769|MAX|MIN)=-32768,32767,-1,0",
                "row(0,2,1)=1 set(0,0,MAX|MIN|65536|-1)=MAX,MIN,65536,-1",
                SEEN + "row(0,0,1)=1 set(0,0,261)=5 fits(0,0,0,0)=b5 row(0,1,1)=1 set(0,0,65543)=7 fits(0,0,0,0)=b7",
                SEEN + "row(0,2,1)=1 set(0,0,261)=261 fits(0,0,0,0)=0");
        edge(3, "ITEM i becomes v", SEEN + "row(0,0,3)=3 set(0,1,6)=6 fits(0,0,0..2,0)=b0,b6,b0",
                SEEN + "row(0,0,40)=40 set(0,39,6)=6 fits(0,0,38..39,0)=b0,b6 set(0,0,2)=2 fits(0,0,0..1,0)=b2,b0");
        edge(3, "PLACE (no such place of a ROW)", "row(0,0,3)=3 set(0,-1|3|40|MIN|MAX,1)=PLACE status()=2",
                "row(0,0,40)=40 set(0,40,1)=PLACE", "row(0,0,0)=0 set(0,-1..1,1)=PLACE");
        edge(3, "NULL (a ROW that is missing)", "set(0,0,1)=NULL status()=1", "row(0,0,1)=1 set(1,0,1)=NULL",
                "row(0,0,1)=1 drop(0)=1 set(0,0,1)=NULL");
        edge(3, "BAD: ROW; NULL; PLACE.", "set(-1|8|MIN|MAX,0,0)=BAD status()=0", "set(0,-1|0|1|MAX,0)=NULL",
                "set(8,-1,0)=BAD");
        unchanged(3, "What is refused, or found, changes nothing but status().", MUCH + TAPE,
                "set(-1|8,0,7)=BAD set(5,0,7)=NULL set(0,-1|3,7)=PLACE set(1,2,7)=PLACE set(2,0,7)=PLACE");
    }

    private static void copy() {
        String five = SEEN + "row(0,0,5)=5 set(0,0,1) set(0,1,2) set(0,2,3) set(0,3,4) set(0,4,5)=5 ";
        edge(4, "as they were ahead", five + "copy(0,0,0,1,4)=4 fits(0,0,0..4,0)=b1,b1,b2,b3,b4",
                five + "copy(0,1,0,0,4)=4 fits(0,0,0..4,0)=b2,b3,b4,b5,b5",
                five + "copy(0,0,0,0,5)=5 fits(0,0,0..4,0)=b1,b2,b3,b4,b5");
        edge(4, "n ITEMS of a from i on come to b from j on",
                five + "row(1,0,5)=5 copy(0,1,1,2,2)=2 fits(0,1,0..4,0)=b0,b0,b2,b3,b0 fits(0,0,0..4,0)=b1,b2,b3,b4,b5",
                five + "row(1,0,5)=5 copy(0,0,1,0,5)=5 set(0,0,9)=9 fits(0,1,0,0)=b1",
                "row(0,2,40)=40 row(7,2,40)=40 copy(0,0,7,0,40)=40 copy(7,39,0,0,1)=1 copy(7,0,0,39,1)=1");
        edge(4, "PLACE (i, j, n below 0, or beyond an end).", "row(0,0,5)=5 row(1,0,2)=2 copy(0,-1|MIN,1,0,1)=PLACE "
                + "copy(0,0,1,-1|MIN,1)=PLACE copy(0,0,1,0,-1|MIN)=PLACE copy(0,4,1,1,-1)=PLACE status()=2",
                "row(0,0,5)=5 row(1,0,2)=2 copy(0,5,1,2,0)=0 copy(0,6,1,2,0)=PLACE copy(0,5,1,3,0)=PLACE",
                "row(0,0,5)=5 row(1,0,2)=2 copy(0,3,1,0,2)=2 copy(0,4,1,0,2)=PLACE copy(0,0,1,1,2)=PLACE",
                "row(0,0,5)=5 row(1,0,2)=2 copy(0,0,1,0,3)=PLACE copy(1,0,0,0,3)=PLACE copy(0,0,1,0,MAX)=PLACE",
                "row(0,0,5)=5 row(1,0,2)=2 copy(0,MAX,1,0,1|MAX)=PLACE copy(0,0,1,MAX,1|MAX)=PLACE",
                "row(0,0,40)=40 copy(0,0,0,0,41)=PLACE copy(0,1,0,0,40)=PLACE copy(0,0,0,1,40)=PLACE",
                "row(0,0,0)=0 copy(0,0,0,0,0)=0 copy(0,0,0,0,1)=PLACE copy(0,1,0,0,0)=PLACE copy(0,0,0,1,0)=PLACE");
        edge(4, "then FINDINGS, of several the first in time", "copy(0,-1,1,-1,-1)=NULL row(0,0,1)=1 "
                + "copy(0,-1,1,-1,-1)=NULL row(1,1,1)=1 copy(0,-1,1,-1,-1)=STORE row(1,0,1)=1 "
                + "copy(0,-1,1,-1,-1)=PLACE status()=2");
        edge(4, "STORE (ROWS of two LANES)", "row(0,0,1)=1 row(1,1,1)=1 row(2,2,1)=1 "
                + "copy(0..2,0,0..2,0,1)=1,STORE,STORE,STORE,1,STORE,STORE,STORE,1",
                "row(0,0,1)=1 row(1,1,1)=1 copy(0,0,1,0,0)=STORE status()=5");
        edge(4, "BAD: ROWS; NULL; STORE; PLACE", "copy(-1|8|MIN|MAX,0,0,0,0)=BAD copy(0,0,-1|8|MIN|MAX,0,0)=BAD",
                "row(0,0,1)=1 copy(0,0,8,0,1)=BAD copy(8,0,0,0,1)=BAD copy(8,0,1,-1,-1)=BAD status()=0",
                "row(0,0,1)=1 copy(0,-1,1,0,1)=NULL copy(1,0,0,-1,1)=NULL copy(1,0,1,0,-1)=NULL status()=1",
                "row(0,0,1)=1 row(1,1,1)=1 copy(0,-1,1,0,1)=STORE copy(1,0,0,0,9)=STORE status()=5");
        unchanged(4, "What is refused, or found, changes nothing but status().", MUCH + TAPE,
                "copy(-1|8,0,0,0,1)=BAD copy(0,0,-1|8,0,1)=BAD copy(5,0,0,0,1)=NULL copy(0,0,5,0,1)=NULL "
                + "copy(0,0,1,0,2)=STORE copy(0,0,0,1,3)=PLACE copy(0,1,0,0,3)=PLACE copy(0,-1,0,0,2)=PLACE "
                + "copy(0,1,0,-1,2)=PLACE copy(0,1,0,0,-1)=PLACE");
    }

    private static void drop() {
        edge(5, "A ROW is missing from now on: how many ITEMS it had.", "row(0,0,0)=0 drop(0)=0 count(0)=0",
                "row(7,2,40)=40 row(6,0,1)=1 drop(7)=40 count(0)=1 set(7,0,1)=NULL set(6,0,1)=1",
                "row(0,0,3)=3 drop(0)=3 copy(0,0,0,0,0)=NULL",
                "[a0;p1,1,1;]=1 row(0,0,3)=3 drop(0)=3 fits(0,0,0,0)=NULL");
        edge(5, "BAD; NULL.", "drop(-1|8|MIN|MAX)=BAD status()=0", "drop(0)=NULL status()=1",
                "row(0,0,3)=3 drop(0)=3 status()=0 drop(0)=NULL status()=1 drop(8)=BAD status()=1");
        unchanged(5, "What is refused, or found, changes nothing but status().", MUCH + TAPE,
                "drop(-1|8)=BAD drop(3..7)=NULL");
    }

    // ---- rooms, acts

    private static void feed() {
        edge(6, "A byte (0 to 255) comes behind the tape: how many it has.", "feed(0|255)=1,2", "feed(-1|256)=BAD",
                "feed(MIN|MAX)=BAD count(7)=0");
        edge(6, "THE TAPE has at most 100 bytes", "99*feed(97)=99 feed(97)=100 count(7)=100 feed(97)=FULL count(7)=100",
                "100*feed(0)=100 3*feed(0)=FULL room()=@0 feed(0)=1");
        edge(6, "BAD; FULL.", "100*feed(97)=100 feed(-1|256)=BAD feed(255)=FULL", "feed(256)=BAD feed(97)=1");
        unchanged(6, "What is refused, or found, changes nothing but status().", MUCH + TAPE, "feed(-1|256|MIN)=BAD");
        // 84 bytes behind a good text: what is FULL is not kept, and the FAULT is where it was
        unchanged(6, "What is refused, or found, changes nothing but status().", MUCH + TAPE + "84*feed(122)=100 ",
                "feed(122)=FULL feed(256)=BAD");
    }

    private static final String[] NUMBERS = {"STRIFE ; (0 to 9)", "0 to 9; 0 to 16; 0 to 3;",
        "0 to 9; 0 to 16; 0 to 3;", "0 to 9; 0 to 16; 0 to 3;", "(0 to 9; 1 to 9;", "(0 to 9; 1 to 9;"};
    private static final String[] HEADS = {"a", "a1;p", "a1;p1,", "a1;p1,1,", "a1;p1,1,1;z", "a1;p1,1,1;z1,"};
    private static final String[] TAILS = {";p1,1,1;", ",1,1;", ",1;", ";", ",1;", ";"};
    private static final int[] LEAST = {0, 0, 0, 0, 0, 1};
    private static final int[] MOST = {9, 9, 16, 3, 9, 9};
    private static final String[] SEEN_BY = {"count(5)", "chair(0,0)", "chair(0,1)", "chair(0,2)", "guest(0,0)",
        "guest(0,1)"};

    /** Each NUMBER of a text, from 0 to 99, with one figure and with two, and with three. */
    private static void numbersOfTexts() {
        for (int which = 0; which < HEADS.length; which++) {
            String head = HEADS[which];
            List<String> runs = new ArrayList<>();
            for (int v = 0; v <= 99; v++) {
                boolean told = v >= LEAST[which] && v <= MOST[which];
                String then = told ? "=1 fault()=0 " + SEEN_BY[which] + "=" + v : "=@" + head.length() + " fault()=2";
                runs.add("[" + head + v + TAILS[which] + "]" + then);
                if (v < 10) {
                    runs.add("[" + head + "0" + v + TAILS[which] + "]" + then);
                }
            }
            edge(7, NUMBERS[which], runs);
            List<String> none = new ArrayList<>();
            for (String figures : new String[] {"000", "001", "100", "999", "0001", "1000", "99999999999"}) {
                none.add("[" + head + figures + TAILS[which] + "]=@" + head.length() + " fault()=1");
                none.add("[" + head + figures + "]=@" + head.length() + " fault()=1");
            }
            edge(7, "a run of three figures, at its first", none);
        }
        edge(7, "2 a NUMBER that is not as told", "[a10;]=@1 fault()=2", "[a1;p1,17]=@6 fault()=2",
                "[a1;p1,1,4]=@8 fault()=2", "[a99]=@1 fault()=2", "[a1;p1,1,1;z1,0]=@13 fault()=2",
                "[a1;p1,1,1;z1,00]=@13 fault()=2");
        edge(7, "NUMBERS (figures, 2 at most)", "[a07;p09,06,03;z08,09;]=1 count(5)=7 chair(0,0..2)=9,6,3 "
                + "guest(0,0..1)=8,9",
                "[a7;p9,16,3;z8,9;]=1 count(5)=7 chair(0,0..2)=9,16,3 guest(0,0..1)=8,9",
                "[a7;p9,016,3;z8,9;]=@6 fault()=1");
    }

    /** A text that is as told up to its end, and what each of its beginnings is. */
    private static void endsOfTexts() {
        List<String> runs = new ArrayList<>();
        for (int n = 0; n <= FIVE.length(); n++) {
            String head = FIVE.substring(0, n);
            int chairs = 0;
            for (char c : head.toCharArray()) {
                chairs += "prbtd".indexOf(c) >= 0 ? 1 : 0;
            }
            boolean whole = head.endsWith(";") && chairs > 0;
            runs.add("[" + head + "]=" + (whole ? chairs + " fault()=0" : "@" + n + " fault()=1"));
        }
        edge(7, "the end: how many bytes there are", runs);
    }

    /** Bytes that are no TOKEN, at every place of a text; bytes of all kinds where one TOKEN is due. */
    private static void bytesOfTexts() {
        String text = "a4;p7,16,1;d0,10,3;z0,3;z9,1;";
        List<String> runs = new ArrayList<>();
        List<String> letters = new ArrayList<>();
        for (int b = 0; b < 256; b++) {
            boolean letter = b >= 'a' && b <= 'z';
            boolean figure = b >= '0' && b <= '9';
            if (!letter && !figure && b != ',' && b != ';') {
                for (int at = 0; at <= text.length(); at++) {
                    runs.add("[" + text.substring(0, at) + "<" + b + ">" + text.substring(at) + "]=@" + at
                            + " fault()=1");
                }
            }
            String told = "<" + b + ">";
            letters.add("[" + told + "1;p1,1,1;]=" + (b == 'a' ? "1" : "@0 fault()=1"));
            boolean chair = b == 'p' || b == 'r' || b == 'b' || b == 't' || b == 'd';
            letters.add("[a1;" + told + "1,1,1;]=" + (chair ? "1" : "@3 fault()=1"));
            letters.add("[a1;p1,1,1;" + told + "1,1;]=" + (b == 'z' ? "1 count(2)=1" : chair ? "@14 fault()=1"
                    : "@10 fault()=1"));
            letters.add("[a1;p1,1,1;z1,1;" + told + "1,1;]=" + (b == 'z' ? "1 count(2)=2" : "@15 fault()=1"));
            if (!figure) {
                letters.add("[a1" + told + "p1,1,1;]=" + (b == ';' ? "1" : "@2 fault()=1"));
                letters.add("[a1;p1" + told + "1,1;]=" + (b == ',' ? "1" : "@5 fault()=1"));
                letters.add("[a1;p1,1" + told + "1;]=" + (b == ',' ? "1" : "@7 fault()=1"));
                letters.add("[a1;p1,1,1" + told + "]=" + (b == ';' ? "1" : "@9 fault()=1"));
                letters.add("[a1;p1,1,1;z1" + told + "1;]=" + (b == ',' ? "1" : "@12 fault()=1"));
                letters.add("[a1;p1,1,1;z1,1" + told + "]=" + (b == ';' ? "1" : "@14 fault()=1"));
                letters.add("[a" + told + ";p1,1,1;]=@1 fault()=1");
                letters.add("[a1;p" + told + ",1,1;]=@4 fault()=1");
                letters.add("[a1;p1," + told + ",1;]=@6 fault()=1");
                letters.add("[a1;p1,1," + told + ";]=@8 fault()=1");
                letters.add("[a1;p1,1,1;z" + told + ",1;]=@11 fault()=1");
                letters.add("[a1;p1,1,1;z1," + told + ";]=@13 fault()=1");
            }
        }
        edge(7, "nothing else, no blanks", runs);
        edge(7, "1 it cannot stand there, or is none", letters);
    }

    private static void room() {
        edge(7, "The tape, empty then, is read: how many CHAIRS there are.", "[a1;p1,1,1;]=1 count(7)=0 room()=@0",
                "[a10;]=@1 count(7)=0 feed(97)=1", "[a1;p1,1,1;p1,1,1;]=2 count(1)=2",
                "[a1;p1,1,1;p1,1,1;p1,1,1;]=3 count(1)=3", "[a1;p1,1,1;p1,1,1;p1,1,1;p1,1,1;]=4 count(1)=4",
                "{a1;p1,1,1;}=10 feed(256)=BAD room()=1");
        edge(7, "room: law chair { chair } { guest }", "room()=@0 fault()=1", "[p1,1,1;]=@0 fault()=1",
                "[a1;]=@3 fault()=1", "[a1;z1,1;]=@3 fault()=1", "[a1;a1;p1,1,1;]=@3 fault()=1",
                "[a1;p1,1,1;a1;]=@10 fault()=1", "[a1;p1,1,1;z1,1;p1,1,1;]=@15 fault()=1",
                "[a1;p1,1,1;z1,1;a1;]=@15 fault()=1", "[a1;p1,1,1;]=1 count(2)=0",
                "[a1;p1,1,1;z1,1;z2,2;]=1 count(2)=2", "[a1;p1,1,1;;]=@10 fault()=1", "[;]=@0 fault()=1");
        edge(7, "letters a to z (each by itself)", "[aa1;p1,1,1;]=@1 fault()=1", "[a1;pp1,1,1;]=@4 fault()=1",
                "[a1;pr1,1,1;]=@4 fault()=1", "[a1;p1,1,1;zz1,1;]=@11 fault()=1", "[pa1;]=@0 fault()=1");
        edge(7, "SORT: p a plain one, r one that rocks, b a barber's, t a throne, d a dentist's",
                "[a1;p1,1,1;r1,1,1;b1,1,1;t1,1,1;d1,1,1;]=5 kind(0..4)=1,2,3,4,5");
        String chairs = "a1;p1,1,1;p1,1,1;p1,1,1;p1,1,1;p1,1,1;";
        String guests = "z1,1;z1,1;z1,1;z1,1;z1,1;";
        edge(7, "CHAIRS 0 .. 4, 5 at most, in a row", "[" + chairs + "]=5 kind(0..4)=1 kind(5)=BAD",
                "[" + chairs + "p1,1,1;]=@38 fault()=3", "[" + chairs + "r]=@38 fault()=3",
                "[" + chairs + "b]=@38 fault()=3", "[" + chairs + "t]=@38 fault()=3", "[" + chairs + "d]=@38 fault()=3",
                "[" + chairs + "d10,17,4;]=@38 fault()=3");
        edge(7, "GUESTS 0 .. 4, 5 at most", "[" + chairs + guests + "]=5 count(2)=5 guest(0..4,0)=1 guest(5,0)=BAD",
                "[" + chairs + guests + "z1,1;]=@63 fault()=3", "[a1;p1,1,1;" + guests + "z]=@35 fault()=3",
                "[a1;p1,1,1;" + guests + "]=1 count(2)=5");
        edge(7, "3 a chair, a guest more than there is room for (its letter).", "[" + chairs + "p]=@38 fault()=3",
                "[" + chairs + guests + "z]=@63 fault()=3", "[" + chairs + "x]=@38 fault()=1",
                "[" + chairs + guests + "x]=@63 fault()=1");
        edge(7, "of one TOKEN the least", "[" + chairs + "z1,1;p1,1,1;]=@43 fault()=1", "[" + chairs + guests
                + "p]=@63 fault()=1",
                "[a1;p1,1,1;p1,1,1;p1,1,1;p1,1,1;p1,1p1,1,1;]=@35 fault()=1", "[a1;p99;]=@4 fault()=2",
                "[a1;99]=@3 fault()=1", "[a1;p1,1,1;99]=@10 fault()=1", "[99]=@0 fault()=1",
                "[" + chairs + guests.substring(5) + "z1z]=@60 fault()=1");
        edge(7, "the first TOKEN that has one (its first byte)", "[a10;p10,17,4;z10,0;]=@1 fault()=2",
                "[a1;p10,17,4;z10,0;]=@4 fault()=2", "[a1;p1,17,4;z10,0;]=@6 fault()=2",
                "[a1;p1,1,4;z10,0;]=@8 fault()=2",
                "[a1;p1,1,1;z10,0;]=@11 fault()=2", "[a1;p1,1,1;z1,0;x]=@13 fault()=2", "[x10;]=@0 fault()=1",
                "[a1x10;]=@2 fault()=1", "[a1;p99,100,1;]=@4 fault()=2", "[a1;p9,100,99;]=@6 fault()=1");
        edge(7, "A ROOM that is read stands in place of the one before", ROOM + "sit(0,0)=7 sit(1,1)=4 recane(3)=16 "
                + "[a1;p1,2,3;z5,6;]=1 count(1..6)=1,1,0,0,1,0 chair(0,0..4)=1,2,3,0,NONE chair(1,0)=BAD "
                + "guest(0,0..3)=5,6,NONE,NONE guest(1,0)=BAD peace()=0 kind(0)=1 kind(1)=BAD",
                "[a1;p1,2,3;z5,6;]=1 sit(0,0)=4 " + ROOM + "count(1..6)=5,4,0,0,4,0 guest(0,2)=NONE",
                "[" + chairs + guests + "]=5 sit(3..4,0|4) [a9;t1,16,0;t1,16,0;t1,16,0;z1,1;z1,1;]=3 "
                + "caned(10,0,0..1)=1,1 "
                + "seating(-1..4)=10,0,1,NONE,NONE,NONE sit(0,0)=1 sit(1,1)=1 peace()=10 sit(2,2)=BAD count(3..4)=3");
        edge(7, "nobody sits, SAT of all CHAIRS is 0; no ACT can be undone.",
                "[a0;t1,16,0;t2,16,0;z3,1;z4,1;]=2 sit(0,1)=2 sit(1,0)=1 [a0;t1,16,0;t2,16,0;z3,1;z4,1;]=2 "
                + "count(3..4)=0 "
                + "chair(0..1,3..4)=0,NONE,0,NONE guest(0..1,2..3)=NONE count(6)=0 undo()=STATE sit(0,0)=1 undo()=0");
        // the longest text that is as told has 89 bytes
        String longest = "a09;p09,16,03;r09,16,03;b09,16,03;t09,16,03;d09,16,03;z09,09;z09,09;z09,09;z09,09;z09,09;";
        edge(7, "at most 100 bytes", "{" + longest + "}=89 room()=5 count(5)=9 "
                + "chair(0..4,0..1)=9,16,9,16,9,16,9,16,9,16",
                "{" + longest + "zzzzzzzzzzz}=100 feed(122)=FULL room()=@89 fault()=3");
        unchanged(7, "less the place of a FAULT: all stays.", MUCH, "[a10;]=@1 [a1;p10]=@4 [a1;p1,1,1;z1,1;z10]=@16 "
                + "[" + chairs.replace("p1,1,1", "t0,16,0") + "z10]=@44");
    }

    private static void fault() {
        edge(8, "The number of the latest FAULT; 0 before one.", "fault()=0 [a1;p1,1,1;]=1 fault()=0",
                "[a10;]=@1 fault()=2 [a1;p1,1,1;]=1 fault()=2 room()=@0 fault()=1 [a10;]=@1 fault()=2",
                "[a1;p1,1,1;p1,1,1;p1,1,1;p1,1,1;p1,1,1;p]=@38 fault()=3 fault()=3 image(0)=STATE fault()=3",
                "[a10;]=@1 [a1;p1,1,1;]=1 image(0)=1 restore(0)=1 recane(0)=1 undo()=0 fault()=2");
    }

    /** What a STRENGTH becomes when somebody sits down, by hand: a quarter less, what is left over being a whole. */
    private static final int[] FADED = {0, 0, 1, 2, 3, 3, 4, 5, 6, 6, 7, 8, 9, 9, 10, 11, 12};

    private static void bearings() {
        edge(9, "together, by 16 (cut)", "[a0;p9,8,0;p0,1,0;p9,15,0;p3,0,0;p3,16,0;z9,1;z0,1;]=5 "
                + "would(0,0..4,0)=9,8,9,9,3 would(1,0..4,0)=4,0,8,0,3 sit(0,1)=8 sit(1,2)=8",
                "[a0;p1,15,0;p0,15,0;p2,9,0;z1,1;z9,1;]=3 would(0,0..2,0)=1,0,1 would(1,0..2,0)=1,0,5");
        edge(9, "All that is divided is cut towards 0", "[a0;p7,15,0;z0,1;]=1 sit(0,0)=6",
                "[a0;p1,15,0;z0,1;]=1 sit(0,0)=0",
                "[a0;p1,1,0;z0,1;]=1 sit(0,0)=0", "[a0;p9,1,0;z8,1;]=1 sit(0,0)=8");
        edge(9, "on one that rocks so, if SAT is even, else OWN", "[a0;r9,16,0;z1,1;]=1 chair(0,3)=0 sit(0,0)=9 "
                + "rise(0)=0 "
                + "chair(0,1)=12 sit(0,0)=1 rise(0)=0 chair(0,1)=9 sit(0,0)=5 rise(0)=0 chair(0,3)=3 sit(0,0)=1",
                "[a0;r9,16,0;p0,16,0;z1,1;]=2 sit(0,0)=9 rise(0)=0 would(0,0,0)=1 move(0)=0 would(0,0..1,0)=0,1 "
                + "sit(0,1)=1");
        edge(9, "with MANNER 1 more (0 for 10)", "[a0;b9,16,0;b8,16,0;b0,16,0;b9,8,0;b4,0,0;z5,1;]=5 "
                + "would(0,0..4,0)=0,9,1,2,5 sit(0,0)=0 chair(0,0)=0");
        edge(9, "on a throne MANNER, but OWN if STRENGTH is 0", "[a0;t9,0,0;t9,1,0;t9,16,0;z2,1;]=3 "
                + "would(0,0..2,0)=2,9,9",
                "[a0;t9,16,0;z2,1;]=1 recane(0)=16 sit(0,0)=2");
        edge(9, "on a dentist's as on a throne, but 5 at least", "[a0;d4,16,0;d5,16,0;d6,16,0;d0,1,0;d9,1,0;z9,1;]=5 "
                + "would(0,0..4,0)=5,5,6,5,9", "[a0;d9,0,0;z4,1;z5,1;z6,1;z0,1;z9,1;]=1 would(0..4,0,0)=5,5,6,5,9");
        List<String> wears = new ArrayList<>();
        List<String> wills = new ArrayList<>();
        for (int strength = 0; strength <= 16; strength++) {
            for (char sort : new char[] {'p', 'r', 'b', 't', 'd'}) {
                int manner = sort == 'b' ? 4 : 3;
                int then = sort == 't' || sort == 'd' ? strength : FADED[strength];
                for (int will = 1; will <= 9; will++) {
                    String due = then < will ? "7,16" : manner + "," + then;
                    String text = "[a0;" + sort + "3," + strength + ",0;z7," + will + ";]=1 ";
                    (will == 1 ? wears : wills).add(text + "would(0,0,1..2)=" + due + " sit(0,0) chair(0,0..1)=" + due
                            + " chair(0,3)=1");
                }
            }
        }
        edge(9, "is a quarter of it less (what is left over counts as a whole)", wears);
        edge(9, "Then, if STRENGTH is below his WILL, the CHAIR takes after him: MANNER is OWN, STRENGTH 16.", wills);
        edge(9, "of a barber's so, and MANNER is 1 more (0 for 10)", "[a0;b9,16,0;z5,1;]=1 sit(0,0)=0 "
                + "chair(0,0..1)=0,12 "
                + "rise(0)=0 sit(0,0)=2 chair(0,0..1)=1,9", "[a0;b8,16,0;z5,1;]=1 sit(0,0)=9 chair(0,0..1)=9,12");
        edge(9, "a throne, a dentist's stays as it is", "[a0;t3,9,0;d9,9,0;z5,9;]=2 sit(0,0)=3 rise(0)=0 sit(0,0)=3 "
                + "rise(0)=0 sit(0,1)=9 chair(0..1,0..1)=3,9,9,9 chair(0..1,3)=2,1");
        // it takes after OWN, not after the BEARING of a dentist's
        edge(9, "MANNER is OWN, STRENGTH 16", "[a0;d9,0,0;z1,1;]=1 sit(0,0)=5 chair(0,0..1)=1,16 rise(0)=0 sit(0,0)=5",
                "[a0;b9,1,0;z4,1;]=1 sit(0,0)=3 chair(0,0..1)=4,16");
    }

    private static void sit() {
        edge(9, "One sits down: his BEARING.", ROOM + "sit(0,0)=7 sit(1,1)=4 sit(2,2)=2 sit(3,3)=3",
                "[a0;p1,1,1;p1,1,1;p1,1,1;p1,1,1;t9,16,1;z1,1;z1,1;z1,1;z1,1;z0,1;]=5 sit(4,4)=9 guest(4,2..3)=4,9 "
                + "chair(4,4)=4");
        edge(9, "BAD; STATE: he sits, somebody sits there.", "sit(0,0)=BAD", "[a0;p1,1,1;]=1 sit(0,0)=BAD",
                ROOM + "sit(-1|4|MIN|MAX,0)=BAD sit(0,-1|5|MIN|MAX)=BAD count(6)=0",
                ROOM + "sit(0,0)=7 sit(0,0..4)=STATE sit(1..3,0)=STATE sit(0,5|-1)=BAD sit(4|-1,0)=BAD count(6)=1",
                ROOM + "sit(0,0)=7 rise(0)=0 sit(1,0)=7 sit(0,0)=STATE sit(0,1)=1");
        edge(9, "SAT is 1 more (999 at most)", "[a0;t1,16,0;t2,16,0;z1,1;]=2 chair(0..1,3)=0 sit(0,0)=1 "
                + "chair(0..1,3)=1,0 "
                + "rise(0)=0 chair(0,3)=1 sit(0,0)=1 chair(0,3)=2");
        mostSat();
        edge(9, "His BEARING stays as long as he sits.", "[a0;t8,16,0;t2,16,0;z1,1;z5,1;]=2 sit(0,0)=8 recane(0)=16 "
                + "guest(0,3)=8 move(0)=0 guest(0,3)=8 sit(1,0)=2 guest(0,3)=8 peace()=4 rise(0)=1 guest(0,3)=NONE "
                + "sit(0,1)=1",
                "[a0;t8,16,0;z1,1;]=1 sit(0,0)=8 image(0)=1 recane(0)=16 restore(0)=1 guest(0,3)=8");
        edge(9, "a GUEST sits down on a CHAIR on which nobody sits", "[a0;t8,16,0;z1,1;z5,1;]=1 sit(0,0)=8 "
                + "sit(1,0)=STATE "
                + "rise(0)=0 sit(1,0)=8 undo()=2 undo()=1 sit(1,0)=STATE");
        unchanged(9, "What is refused, or found, changes nothing but status().", MUCH + TAPE,
                "sit(-1|4,3)=BAD sit(3,-1|5)=BAD sit(0,3)=STATE sit(3,0)=STATE sit(0,0)=STATE sit(0,1)=STATE");
    }

    /** Only beyond 512 calls can SAT be so much; what is answered there is free, but this program holds to it. */
    private static void mostSat() {
        ChairPast x = new ChairPast();
        for (char letter : "a0;r9,16,0;z1,1;".toCharArray()) {
            x.feed(letter);
        }
        x.room();
        for (int i = 1; i <= 1010; i++) {
            x.sit(0, 0);
            x.rise(0);
            looked++;
            if (x.chair(0, 3) != Math.min(i, 999)) {
                complain(quote(9, "SAT is 1 more (999 at most)"), "SAT is " + x.chair(0, 3) + " behind " + i);
            }
        }
    }

    private static void rise() {
        edge(10, "He rises: on which CHAIR he sat.", ROOM + "sit(0,0)=7 rise(0)=0 guest(0,2..3)=NONE chair(0,4)=NONE "
                + "count(3..4)=0 chair(0,0..3)=7,12,1,1", ROOM + "sit(3,4)=5 sit(0,1)=1 rise(3)=4 count(3..4)=1,2",
                ROOM + "sit(0,0)=7 move(0)=0 rise(0)=1 count(4)=0");
        edge(10, "BAD; STATE: he does not sit.", "rise(0)=BAD", ROOM + "rise(0..3)=STATE rise(-1|4|MIN|MAX)=BAD",
                ROOM + "sit(0,0)=7 rise(1)=STATE rise(0)=0 rise(0)=STATE count(6)=2");
        unchanged(10, "What is refused, or found, changes nothing but status().", MUCH + TAPE,
                "rise(-1|4)=BAD rise(3)=STATE");
    }

    private static void recane() {
        edge(11, "Recaned: STRENGTH it had.", ROOM + "recane(0..4)=16,10,8,16,0 chair(0..4,1)=0 recane(0..4)=0",
                ROOM + "recane(0)=16 chair(0,0..4)=7,0,1,0,NONE chair(1,1)=10 count(6)=1",
                ROOM + "sit(0,0)=7 recane(0)=12 guest(0,2..3)=0,7 chair(0,3..4)=1,0");
        edge(11, "a CHAIR is recaned (STRENGTH 0)", "[a0;p9,16,0;z1,1;]=1 recane(0)=16 chair(0,1)=0 sit(0,0)=1 "
                + "chair(0,0..1)=1,16",
                "[a0;p9,0,0;]=1 recane(0)=0 count(6)=1 undo()=0 undo()=STATE");
        edge(11, "STRENGTH it had. BAD.", "recane(0)=BAD", ROOM + "recane(-1|5|MIN|MAX)=BAD count(6)=0",
                "[a0;p9,16,0;]=1 recane(1)=BAD");
        unchanged(11, "What is refused, or found, changes nothing but status().", MUCH + TAPE,
                "recane(-1|5|MIN|MAX)=BAD");
    }

    private static void move() {
        edge(12, "BAD: there is none behind it, too.", "move(0)=BAD", "[a0;p1,1,1;]=1 move(0)=BAD move(-1)=BAD",
                ROOM + "move(4|5|-1|MIN|MAX)=BAD count(6)=0 move(3)=0 kind(3..4)=5,4",
                "[a0;p1,1,1;t1,1,1;]=2 move(1)=BAD move(0)=0 kind(0..1)=4,1");
        edge(12, "(it and the one behind it change places, with all who sit there)",
                "[a0;t1,2,3;p4,5,1;z6,1;z8,1;]=2 sit(0,0)=1 move(0)=0 chair(0,0..4)=4,5,1,0,NONE "
                + "chair(1,0..4)=1,2,3,1,0 "
                + "guest(0,2..3)=1,1 count(4)=2 kind(0..1)=1,4",
                "[a0;t1,2,3;p4,5,1;z6,1;z8,1;]=2 sit(0,1)=5 move(0)=0 guest(0,2..3)=0,5 count(4)=1 chair(0,4)=0 "
                + "chair(1,4)=NONE",
                "[a0;t1,16,0;t4,16,0;z6,1;z8,1;]=2 sit(0,0)=1 sit(1,1)=4 move(0)=7 guest(0..1,2)=1,0 chair(0..1,4)=1,0 "
                + "guest(0..1,3)=1,4", "[a0;t1,16,0;t4,16,0;]=2 move(0)=0 chair(0..1,0)=4,1 count(3..4)=0");
        edge(12, "PEACE then", "[a0;t1,16,0;t4,16,0;t9,16,0;z6,1;z8,1;]=3 sit(0,0)=1 sit(1,1)=4 peace()=7 move(1)=0 "
                + "move(1)=7",
                "[a9;t1,16,0;t1,16,0;t1,16,0;t1,16,1;z1,1;z1,1;z1,1;z1,1;]=4 sit(0,0) sit(1,1) sit(2,2) sit(3,3) "
                + "peace()=21 "
                + "move(2)=30 move(1)=30 move(0)=21");
        unchanged(12, "What is refused, or found, changes nothing but status().", MUCH + TAPE,
                "move(4|5|-1|MAX|MIN)=BAD");
    }

    private static void undo() {
        edge(13, "STATE: none.", "undo()=STATE", ROOM + "undo()=STATE sit(0,0)=7 undo()=0 undo()=STATE");
        edge(13, "ACTS (24 at most are kept, of more the oldest is forgotten", "[a0;p1,16,0;t2,5,0;]=2 23*move(0)=0 "
                + "count(6)=23 "
                + "move(0)=0 count(6)=24 23*undo()=1 undo()=0 undo()=STATE kind(0)=1",
                "[a0;p1,16,0;t2,5,0;]=2 recane(0)=16 24*move(0)=0 count(6)=24 24*undo()=0 undo()=STATE chair(0,1)=0 "
                + "kind(0)=1",
                "[a0;p1,16,0;t2,5,0;]=2 recane(0)=16 23*move(0)=0 count(6)=24 24*undo()=0 undo()=STATE chair(0,1)=16",
                "[a0;p1,16,0;t2,5,0;]=2 60*move(0)=0 recane(0)=16 count(6)=24 undo()=23 chair(0,1)=16 recane(1)=5 "
                + "23*undo()=1",
                "[a0;t1,16,0;z5,1;]=1 30*recane(0)=0 sit(0,0)=5 rise(0)=0 count(6)=24 2*undo()=22 guest(0,2)=NONE "
                + "22*undo()=0 undo()=STATE chair(0,1)=0");
        edge(13, "each can be undone, the latest first", ROOM + "sit(0,0)=7 sit(1,1)=4 rise(0)=0 recane(0)=12 "
                + "move(0)=0 "
                + "undo()=4 kind(0)=1 guest(1,2)=1 undo()=3 chair(0,1)=12 undo()=2 guest(0,2..3)=0,7 chair(0,4)=0 "
                + "peace()=7 "
                + "undo()=1 guest(1,2..3)=NONE chair(1,0..4)=2,10,1,0,NONE undo()=0 chair(0,0..4)=7,16,1,0,NONE "
                + "count(3)=0",
                ROOM + "sit(2,2)=2 chair(2,0..3)=5,16,1,1 undo()=0 chair(2,0..3)=9,8,1,0",
                ROOM + "sit(0,0)=7 undo()=0 sit(1,0)=7 undo()=0 sit(2,0)=7 count(3)=4 count(6)=1");
        edge(13, "how many can be undone yet", ROOM + "sit(0,0)=7 rise(0)=0 sit(0,1)=1 undo()=2 undo()=1 count(6)=1 "
                + "recane(0)=12 count(6)=2 undo()=1 undo()=0");
        String seated = "[a0;t1,16,0;t2,16,0;t3,16,0;t4,16,0;t5,16,0;z9,1;z9,1;z9,1;z9,1;z9,1;]=5 sit(4,0)=1 "
                + "sit(3,1)=2 sit(2,2)=3 "
                + "sit(1,3)=4 sit(0,4)=5 ";
        edge(13, "The latest ACT is undone", seated + "rise(4)=0 undo()=5 guest(0..4,2..3)=4,5,3,4,2,3,1,2,0,1 "
                + "peace()=36 "
                + "chair(0..4,4)=4,3,2,1,0", seated + "move(3)=35 undo()=5 guest(0..4,2)=4,3,2,1,0 "
                + "chair(0..4,0)=1,2,3,4,5 peace()=36");
        // what is refused is no ACT
        edge(13, "how many can be undone yet", ROOM + "sit(0,0)=7 sit(0,1)=STATE rise(1)=STATE recane(5)=BAD "
                + "move(4)=BAD "
                + "sit(9,9)=BAD count(6)=1 undo()=0");
        unchanged(13, "What is refused, or found, changes nothing but status().",
                "row(0,0,3)=3 [a5;t1,16,0;z2,2;]=1 image(1)=1 " + ROOM + "image(0)=1 ask(2,0) " + TAPE, "undo()=STATE");
    }

    private static void chair() {
        edge(14, "Of a CHAIR (by its place): 0 MANNER, 1 STRENGTH, 2 SET, 3 SAT, 4 who sits there (NONE).",
                ROOM + "chair(0..4,0..4)=7,16,1,0,NONE,2,10,1,0,NONE,9,8,1,0,NONE,3,16,2,0,NONE,1,0,2,0,NONE",
                ROOM + "sit(0,4)=5 chair(4,0..4)=0,16,2,1,0 chair(0..3,4)=NONE",
                ROOM + "sit(3,0)=7 chair(0,0..4)=7,12,1,1,3 rise(3)=0 chair(0,4)=NONE");
        edge(14, "Numbers go from 0 on.", "[a0;t1,2,3;z4,5;]=1 chair(0,0..2)=1,2,3 guest(0,0..1)=4,5 kind(0)=4 "
                + "chair(-1,0)=BAD "
                + "guest(-1,0)=BAD kind(-1)=BAD sit(0,0)=1 count(3..4)=1");
        edge(14, "4 who sits there (NONE). BAD.", "chair(0,0..4)=BAD", ROOM + "chair(-1|5|MIN|MAX,0)=BAD "
                + "chair(0,-1|5|MIN|MAX)=BAD", "[a0;p1,1,1;]=1 chair(1,0..4)=BAD");
        unchanged(14, "What is refused, or found, changes nothing but status().", MUCH + TAPE,
                "chair(0..4,0..4) chair(5|-1,0)=BAD chair(0,5|-1)=BAD");
    }

    private static void guest() {
        edge(15, "Of a GUEST: 0 OWN, 1 WILL, 2 the CHAIR (NONE), 3 his BEARING (NONE: he does not sit).",
                ROOM + "guest(0..3,0..3)=0,3,NONE,NONE,9,1,NONE,NONE,5,9,NONE,NONE,4,5,NONE,NONE",
                ROOM + "sit(0,0)=7 sit(3,4)=5 guest(0,0..3)=0,3,0,7 guest(3,0..3)=4,5,4,5 guest(1..2,2..3)=NONE",
                "[a0;t0,16,0;z9,9;]=1 sit(0,0)=0 guest(0,0..3)=9,9,0,0 rise(0)=0 guest(0,2..3)=NONE");
        edge(15, "(NONE: he does not sit). BAD.", "guest(0,0..3)=BAD", ROOM + "guest(-1|4|MIN|MAX,0)=BAD "
                + "guest(0,-1|4|MIN|MAX)=BAD", "[a0;p1,1,1;]=1 guest(0,0..3)=BAD");
        unchanged(15, "What is refused, or found, changes nothing but status().", MUCH + TAPE,
                "guest(0..3,0..3) guest(4|-1,0)=BAD guest(0,4|-1)=BAD");
    }

    private static void peace() {
        edge(16, "PEACE. STATE: no ROOM.", "peace()=STATE [a10;]=@1 peace()=STATE [a1;p1,1,1;]=1 peace()=0 [a10;]=@1 "
                + "peace()=0");
        List<String> pairs = new ArrayList<>();
        for (int one = 0; one <= 9; one++) {
            for (int other = 0; other <= 9; other++) {
                pairs.add("[a9;t" + one + ",16,0;t" + other + ",16,0;z0,1;z0,1;]=2 sit(0,0) sit(1,1) peace()="
                        + (10 - Math.abs(one - other)));
            }
        }
        edge(16, "10 less by how much their BEARINGS differ", pairs);
        edge(16, "for each two CHAIRS beside one another on which two sit",
                "[a0;t1,16,0;t1,16,0;t1,16,0;z0,1;z0,1;]=3 peace()=0 "
                + "sit(0,0)=1 peace()=0 sit(1,2)=1 peace()=0 rise(1)=2 sit(1,1)=1 peace()=10",
                "[a0;t1,16,0;t3,16,0;t9,16,0;z0,1;z0,1;z0,1;]=3 sit(0,0) sit(1,1) sit(2,2)=9 peace()=12",
                "[a0;t1,16,0;z0,1;]=1 sit(0,0)=1 peace()=0");
        String all = "sit(0,0) sit(1,1) sit(2,2) sit(3,3) sit(4,4) ";
        String five = "z0,1;z0,1;z0,1;z0,1;z0,1;";
        edge(16, "STRIFE less for each three CHAIRS beside one another, of one SET, on all of which somebody sits.",
                "[a9;t1,16,0;t1,16,0;t1,16,0;" + five + "]=3 sit(0,0) sit(1,1) peace()=10 sit(2,2)=1 peace()=11",
                "[a9;t1,16,0;t1,16,0;t1,16,0;t1,16,0;" + five + "]=4 sit(0,0) sit(1,1) sit(3,3) peace()=10",
                "[a9;t1,16,0;t1,16,0;t1,16,0;t1,16,0;" + five + "]=4 sit(0,1) sit(1,2) sit(3,3) peace()=11",
                "[a9;t1,16,3;t1,16,3;t1,16,3;t1,16,3;t1,16,3;" + five + "]=5 " + all + "peace()=13",
                "[a1;t1,16,3;t1,16,3;t1,16,3;t1,16,3;t1,16,3;" + five + "]=5 " + all + "peace()=37",
                "[a0;t1,16,3;t1,16,3;t1,16,3;t1,16,3;t1,16,3;" + five + "]=5 " + all + "peace()=40",
                "[a9;t1,16,3;t1,16,3;t1,16,2;t1,16,3;t1,16,3;" + five + "]=5 " + all + "peace()=40",
                "[a9;t1,16,2;t1,16,3;t1,16,3;t1,16,3;t1,16,2;" + five + "]=5 " + all + "peace()=31",
                "[a9;t1,16,3;t1,16,2;t1,16,3;" + five + "]=3 sit(0,0) sit(1,1) sit(2,2) peace()=20",
                "[a9;t1,16,2;t1,16,3;t1,16,3;" + five + "]=3 sit(0,0) sit(1,1) sit(2,2) peace()=20",
                "[a9;t1,16,3;t1,16,3;t1,16,2;" + five + "]=3 sit(0,0) sit(1,1) sit(2,2) peace()=20",
                "[a9;t0,16,1;t9,16,1;t0,16,1;t9,16,1;t0,16,1;" + five + "]=5 " + all + "peace()=-23");
        unchanged(16, "PEACE. STATE: no ROOM.", MUCH + TAPE, "peace()=7 fault()=2 status()=1");
    }

    // ---- foretold

    private static void would() {
        edge(17, "did he sit down there now (whoever sits there)", ROOM + "sit(0,0)=7 would(0,0,0..2)=5,7,9 "
                + "would(1,0,0..2)=7,7,9", ROOM + "sit(1,1)=4 would(0..3,1,0)=0,9,5,4 sit(0,2)=0 would(1,3,0)=3",
                ROOM + "would(0,4,0..2)=5,0,16 would(2,2,0..2)=2,5,16 would(0,2,0..2)=0,0,6");
        edge(17, "0 BEARING, 1 MANNER then, 2 STRENGTH then. BAD.", "would(0,0,0)=BAD",
                "[a0;p1,1,1;]=1 would(0,0,0)=BAD",
                ROOM + "would(-1|4|MIN|MAX,0,0)=BAD would(0,-1|5|MIN|MAX,0)=BAD would(0,0,-1|3|MIN|MAX)=BAD",
                ROOM + "sit(0,0)=7 would(0,0,3)=BAD would(3,4,0..2)=5,4,16");
        unchanged(17, "FORETOLD (nothing changes).", MUCH + TAPE,
                "would(0..3,0..4,0..2) would(4,0,0)=BAD would(0,5,0)=BAD would(0,0,3)=BAD");
    }

    private static void seating() {
        edge(18, "NONE: there are not enough CHAIRS.", "[a0;t1,16,0;z1,1;z2,1;]=1 seating(-1..4)=NONE",
                "[a0;t1,16,0;t1,16,0;z1,1;z2,1;]=2 seating(-1..4)=10,0,1,NONE,NONE,NONE",
                "[a0;t1,16,0;t1,16,0;z1,1;z2,1;z3,1;]=2 seating(-1..4)=NONE sit(0,0)=1 seating(-1..4)=NONE sit(1,1)=1 "
                + "seating(-1..4)=NONE", "[a0;t1,16,0;t1,16,0;z1,1;z2,1;]=2 sit(1,0)=1 seating(-1..2)=10,1,0,NONE");
        edge(18, "the CHAIR of a GUEST (0 on; NONE: no such GUEST)", "[a0;t1,16,0;]=1 "
                + "seating(-1..4)=0,NONE,NONE,NONE,NONE,NONE",
                ROOM + "seating(-1..4)=27,4,3,2,1,NONE",
                "[a0;t1,16,0;t1,16,0;t1,16,0;t1,16,0;t1,16,0;z1,1;z1,1;z1,1;z1,1;z1,1;]=5 seating(-1..4)=40,0,1,2,3,4");
        edge(18, "(of one who sits now, his)", "[a0;t1,16,0;t5,16,0;t4,16,0;z0,1;z0,1;]=3 sit(0,0)=1 "
                + "seating(-1..1)=6,0,1",
                "[a0;t0,16,1;t9,16,1;z1,1;z2,1;]=2 sit(0,1)=9 sit(1,0)=0 seating(-1..1)=1,1,0 recane(0)=16 "
                + "seating(-1)=1");
        edge(18, "of several the first (GUEST by GUEST)", "[a0;t1,16,0;t1,16,0;t1,16,0;z1,1;z2,1;]=3 "
                + "seating(-1..1)=10,0,1",
                "[a0;t9,16,0;t1,16,0;t1,16,0;z1,1;z2,1;]=3 seating(-1..1)=10,1,2",
                "[a0;t1,16,0;t1,16,0;t1,16,0;z1,1;z2,1;]=3 sit(1,1)=1 seating(-1..1)=10,0,1",
                "[a0;p0,0,0;p0,0,0;p0,0,0;z0,1;z9,1;z4,1;]=3 seating(-1..2)=11,0,2,1");
        edge(18, "so that PEACE is most then", "[a9;t0,16,1;t9,16,1;t0,16,1;z1,1;z2,1;z3,1;]=3 seating(-1..2)=-7,0,1,2",
                "[a9;t0,16,1;t9,16,1;t0,16,1;t9,16,1;z1,1;z1,1;z1,1;]=4 seating(-1..2)=1,0,1,3",
                "[a0;t1,16,0;t5,16,0;t6,16,0;z0,1;z0,1;]=3 seating(-1..1)=9,1,2",
                "[a0;t9,16,0;z1,1;]=1 seating(-1..0)=0");
        edge(18, "BAD: k not -1 to 4, too; STATE: no ROOM (ahead of BAD).", "seating(-2..5)=STATE "
                + "seating(MIN|MAX)=STATE",
                ROOM + "seating(-2|5|MIN|MAX)=BAD", "[a0;t1,16,0;z1,1;z2,1;]=1 seating(-2|5)=BAD");
        unchanged(18, "FORETOLD (nothing changes).", MUCH + TAPE, "seating(-1..4) seating(5|-2)=BAD");
        unchanged(18, "What is refused, or found, changes nothing but status().", "row(0,0,3)=3 drop(5)=NULL " + TAPE,
                "seating(-1)=STATE seating(9)=STATE");
    }

    private static void warm() {
        edge(19, "the fewest sittings (0 to 3)", ROOM + "warm(0,0,7,-1)=0 warm(0,0,5,-1)=1 warm(0,0,3,-1)=2 "
                + "warm(0,0,2,-1)=3 warm(0,0,1,-1)=NONE", "[a0;p4,7,0;z9,1;z0,3;]=1 warm(0,0,0,-1)=3",
                "[a0;p4,9,0;z9,1;z0,3;]=1 warm(0,0,0,-1..2)=NONE");
        edge(19, "in the first such row (by numbers)", "[a0;p4,5,0;z9,1;z0,3;]=1 warm(0,0,0,-1..2)=2,0,1,NONE",
                "[a0;p4,7,0;z9,1;z0,3;]=1 warm(0,0,0,-1..2)=3,0,0,1", "[a0;p4,7,0;z0,3;z9,1;]=1 "
                + "warm(1,0,0,-1..2)=3,0,0,0",
                "[a0;t9,3,0;z1,3;z2,4;z2,4;]=1 warm(0,0,2,-1..0)=1,1");
        edge(19, "of any GUESTS on that CHAIR (each rises at once; whoever sits there now)",
                "[a0;t9,3,0;t0,16,0;z1,3;z2,4;]=2 sit(1,1)=0 warm(0,0,2,-1..0)=1,1 warm(1,0,2,-1..0)=1,1",
                "[a0;t9,3,0;z1,3;z2,4;]=1 sit(0,0)=9 warm(0,0,2,-1..0)=1,1 warm(1,0,1,-1)=NONE",
                "[a0;t9,3,0;z1,3;z2,4;]=1 sit(1,0)=9 warm(0,0,2,-1)=0");
        edge(19, "(0 on; NONE: there are fewer); NONE.", ROOM + "warm(0,0,7,0..2)=NONE warm(0,0,5,0..2)=0,NONE,NONE "
                + "warm(0,0,3,0..2)=0,0,NONE warm(0,0,2,0..2)=0 warm(0,0,1,0..2)=NONE");
        edge(19, "WARM (BEARING 0 to 9)", ROOM + "warm(0,0,-1|10|MIN|MAX,-1)=BAD warm(0,2,0,-1)=0 warm(1,4,9,-1)=0");
        edge(19, "BAD: k not -1 to 2, too.", "warm(0,0,0,-1)=BAD", ROOM + "warm(0,0,7,-2|3|MIN|MAX)=BAD "
                + "warm(-1|4|MIN|MAX,0,0,-1)=BAD warm(0,-1|5|MIN|MAX,0,-1)=BAD", "[a0;p1,1,1;]=1 warm(0,0,0,-1)=BAD");
        unchanged(19, "FORETOLD (nothing changes).", MUCH + TAPE,
                "warm(0..3,0..4,0,-1) warm(0..3,2,0..9,0) warm(4,0,0,0)=BAD warm(0,0,10,0)=BAD warm(0,0,0,3)=BAD");
    }

    private static void pure() {
        edge(20, "one behind another (0 to 20), his BEARING there is OWN first", "[a0;b2,16,0;z1,1;]=1 pure(0,0)=14",
                ROOM + "pure(0..1,0)=6,8 pure(0..1,1)=1 pure(0,2)=0",
                "[a0;r9,16,0;z1,1;]=1 pure(0,0)=1 sit(0,0)=9 pure(0,0)=0 rise(0)=0 sit(0,0)=1 pure(0,0)=1",
                "[a0;p9,0,0;p9,16,0;t9,0,0;t9,1,0;z1,9;z9,9;]=4 pure(0,0..3)=0,3,0,1 pure(1,0..3)=0");
        edge(20, "PURE; NONE. BAD.", "pure(0,0)=BAD", "[a0;p1,1,1;]=1 pure(0,0)=BAD",
                ROOM + "pure(-1|4|MIN|MAX,0)=BAD pure(0,-1|5|MIN|MAX)=BAD pure(1,2|3)=NONE",
                "[a0;d9,8,0;t9,16,0;d9,0,0;z4,9;z5,9;]=3 pure(0,0..2)=NONE pure(1,0..2)=1,NONE,0",
                "[a0;b5,16,0;z5,9;]=1 pure(0,0)=NONE");
        unchanged(20, "FORETOLD (nothing changes).", MUCH + TAPE, "pure(0..3,0..4) pure(4,0)=BAD pure(0,5)=BAD");
    }

    private static void between() {
        edge(21, "GUESTS (bits) one of whom, sitting down there once, would leave a CHAIR with a told MANNER, STRENGTH",
                ROOM + "between(0,7,12,0)=b0.1.2.3 between(0,7,16,0)=0 between(1,2,7,0)=b0.1.3 between(1,5,16,0)=b2",
                ROOM + "between(4,0|9|5|4,16,0)=b0,b1,b2,b3 between(4,1,0,0)=0",
                ROOM + "sit(2,1)=3 between(1,5,12,0)=b0.1.2.3",
                "[a0;t1,16,0;z1,1;z1,1;z1,1;z1,1;z1,1;]=1 between(0,1,16,0)=b0.1.2.3.4");
        edge(21, "(the one, then the other one, or the same again)", ROOM + "between(1,5,16,1)=3 between(1,5,12,1)=4 "
                + "between(1,2,5,1)=9 between(0,7,9,1)=16 between(4,0,16,1)=4",
                "[a0;t1,16,0;z1,1;]=1 between(0,1,16,1)=1", "[a0;t1,16,0;z1,1;z1,1;z1,1;z1,1;z1,1;]=1 "
                + "between(0,1,16,1)=25");
        edge(21, "BETWEEN (what = 0), PAIRS (1). BAD: MANNER, STRENGTH, too.", "between(0,0,0,0)=BAD",
                ROOM + "between(0,-1|10|MIN|MAX,0,0)=BAD between(0,0,-1|17|MIN|MAX,0)=BAD between(0,0|9,0|16,0|1)=0",
                ROOM + "between(0,0,0,-1|2|MIN|MAX)=BAD between(-1|5|MIN|MAX,0,0,0)=BAD",
                "[a0;t1,16,0;]=1 between(0,1,16,0..1)=0");
        unchanged(21, "FORETOLD (nothing changes).", MUCH + TAPE, "between(0..4,7,12,0..1) between(5,0,0,0)=BAD "
                + "between(0,10,0,0)=BAD between(0,0,17,0)=BAD between(0,0,0,2)=BAD");
    }

    private static void trios() {
        edge(22, "threes of CHAIRS beside one another, of one SET: how many; the first (its first CHAIR); NONE.",
                "[a0;p1,1,2;]=1 trios(0..1)=0,NONE", "[a0;p1,1,2;p1,1,2;]=2 trios(0..1)=0,NONE",
                "[a0;p1,1,0;p1,1,0;p1,1,0;]=3 trios(0..1)=1,0", "[a0;p1,1,2;p1,1,3;p1,1,2;]=3 trios(0..1)=0,NONE",
                "[a0;p1,1,2;p1,1,2;p1,1,3;]=3 trios(0..1)=0,NONE", "[a0;p1,1,3;p1,1,2;p1,1,2;]=3 trios(0..1)=0,NONE",
                "[a0;p1,1,2;p1,1,3;p1,1,3;p1,1,3;p1,1,3;]=5 trios(0..1)=2,1 move(0)=0 trios(0..1)=1,2",
                "[a0;p1,1,1;p1,1,3;p1,1,2;p1,1,2;p1,1,2;]=5 trios(0..1)=1,2",
                "[a0;p1,1,3;p1,1,3;p1,1,3;p1,1,3;p1,1,3;]=5 trios(0..1)=3,0", ROOM + "trios(0..1)=1,0",
                "[a0;p1,1,0;p1,1,0;]=2 trios(0..1)=0,NONE", "[a0;p1,1,0;p1,1,0;p1,1,1;p1,1,0;p1,1,0;]=5 "
                + "trios(0..1)=0,NONE",
                "[a0;p1,1,3;p1,1,3;p1,1,3;p1,1,3;p1,1,3;]=5 [a0;p1,1,3;p1,1,3;]=2 trios(0..1)=0,NONE",
                "[a0;p1,1,3;p1,1,3;p1,1,3;]=3 [a0;p1,1,3;]=1 trios(0..1)=0,NONE");
        edge(22, "the first (1; NONE). BAD; STATE: no ROOM (ahead of BAD).", "trios(-1..2)=STATE trios(MIN|MAX)=STATE",
                ROOM + "trios(-1|2|MIN|MAX)=BAD");
        unchanged(22, "FORETOLD (nothing changes).", MUCH + TAPE, "trios(0..1) trios(-1|2)=BAD");
    }

    private static void owns() {
        String room = "[a0;p8,8,0;t9,0,0;z3,1;z6,9;]=2 row(0,0,3)=3 set(0,1,5)=5 set(0,2,3)=3 ";
        edge(23, "on each CHAIR (as many ITEMS as CHAIRS)", room + "owns(0..1,0,1)=b3 owns(0,0,0)=0 owns(0,0,2)=PLACE",
                room + "row(1,0,1)=1 owns(0,1,0)=PLACE row(1,0,0)=0 owns(0,1,0)=PLACE",
                ROOM + "row(0,0,4)=4 owns(0,0,0)=PLACE row(0,0,5)=5 owns(0,0,0)=0 owns(0,0,1)=PLACE",
                ROOM + "row(0,0,40)=40 owns(0,0,35)=0 owns(0,0,36)=PLACE",
                "[a0;p8,8,0;z3,1;]=1 row(0,0,2)=2 set(0,0,5)=5 set(0,1,9)=9 owns(0,0,0)=b2.3");
        edge(23, "OWN (0 to 9, bits) of him by which it is so", "[a0;t1,0,0;z3,1;]=1 row(0,2,1)=1 set(0,0,0)=0 "
                + "owns(0,0,0)=b0 "
                + "set(0,0,9)=9 owns(0,0,0)=b9 set(0,0,10)=10 owns(0,0,0)=0 set(0,0,-1)=-1 owns(0,0,0)=0 "
                + "set(0,0,265)=265 "
                + "owns(0,0,0)=0", "[a0;t4,1,0;p4,16,0;z3,1;]=2 row(0,2,2)=2 set(0,0..1,4)=4 owns(0,0,0)=1023",
                "[a0;d1,0,0;z3,1;]=1 row(0,1,1)=1 set(0,0,5)=5 owns(0,0,0)=b0.1.2.3.4.5 set(0,0,4)=4 owns(0,0,0)=0");
        edge(23, "A row tells the BEARING of one GUEST, did he sit down now", "[a0;r9,16,0;z3,1;]=1 row(0,0,1)=1 "
                + "set(0,0,9)=9 "
                + "owns(0,0,0)=1023 sit(0,0)=9 owns(0,0,0)=b9 rise(0)=0 owns(0,0,0)=b9");
        edge(23, "BAD: GUEST, ROW; NULL; PLACE.", "row(0,0,9)=9 owns(0,0,0)=BAD",
                "[a0;p1,1,1;]=1 row(0,0,9)=9 owns(0,0,0)=BAD",
                room + "owns(-1|2|MIN|MAX,0,0)=BAD owns(0,-1|8|MIN|MAX,0)=BAD owns(2,1,0)=BAD owns(0,8,-1)=BAD "
                        + "status()=0",
                room + "owns(0,1,0)=NULL owns(0,1,-1|99)=NULL status()=1 owns(0,0,-1|3|40|MIN|MAX)=PLACE status()=2 "
                + "owns(0,0,1)=b3 status()=0");
        unchanged(23, "FORETOLD (nothing changes).", MUCH + TAPE + "row(6,0,9)=9 ", "owns(0..3,6,0..4) owns(4,6,0)=BAD "
                + "owns(0,8,0)=BAD owns(0,5,0)=NULL owns(0,0,0)=PLACE owns(0,6,5)=PLACE");
    }

    private static void fits() {
        String room = "[a0;p8,8,0;t9,0,0;z3,1;z6,9;]=2 row(0,1,3)=3 set(0,1,5)=5 set(0,2,6)=6 ";
        edge(24, "each rising at once (as many ITEMS as GUESTS)", room + "fits(0,0,1,0..2)=b7.8,b7.8.9,b1.2 "
                + "fits(0,0,0,0..2)=0 "
                + "fits(0,0,2,0)=PLACE", room + "row(1,0,1)=1 fits(0,1,0,0)=PLACE",
                "[a0;r9,16,0;z1,1;z2,1;]=1 row(0,0,3)=3 set(0,0,9)=9 set(0,1,2)=2 fits(0,0,0,0)=b9 set(0,1,9)=9 "
                + "fits(0,0,0,0)=0",
                "[a0;t9,16,0;z1,1;z1,1;z1,1;z1,1;z1,1;]=1 row(0,0,40)=40 fits(0,0,35,0)=b0 fits(0,0,36,0)=PLACE "
                + "row(0,0,5)=5 fits(0,0,0,0)=b0 row(0,0,4)=4 fits(0,0,0,0)=PLACE");
        edge(24, "MANNERS (0 to 9, bits)", SEEN + "row(0,2,1)=1 set(0,0,0)=0 fits(0,0,0,0)=b0 set(0,0,9)=9 "
                + "fits(0,0,0,0)=b9 "
                + "set(0,0,10)=10 fits(0,0,0,0)=0 set(0,0,-1)=-1 fits(0,0,0,0)=0 set(0,0,256)=256 fits(0,0,0,0)=0",
                "[a0;p1,0,0;z4,1;]=1 row(0,0,1)=1 set(0,0,4)=4 fits(0,0,0,0)=1023",
                "[a0;b5,16,0;z4,1;]=1 row(0,0,1)=1 fits(0,0,0,0)=b9 set(0,0,9)=9 fits(0,0,0,0)=b8");
        edge(24, "STRENGTHS (0 to 16, bits)", SEEN + "row(0,0,1)=1 set(0,0,1)=1 fits(0,0,0,1)=b0 set(0,0,5)=5 "
                + "fits(0,0,0,1)=131070 "
                + "set(0,0,4)=4 fits(0,0,0,1)=0", "[a0;p9,3,0;z0,1;]=1 row(0,0,1)=1 fits(0,0,0,1)=b0.1 set(0,0,9)=9 "
                + "fits(0,0,0,1)=b16", "[a0;p0,3,0;z0,1;]=1 row(0,0,1)=1 fits(0,0,0,1)=131071");
        edge(24, "SORTS: KINDS (bits 1 to 5) of the CHAIR by which it is so", "[a0;p9,16,0;z1,1;]=1 row(0,0,1)=1 "
                + "fits(0,0,0,2)=b3 "
                + "set(0,0,9)=9 fits(0,0,0,2)=b1.2.4.5", "[a0;d4,16,0;z1,1;]=1 row(0,0,1)=1 set(0,0,4)=4 "
                + "fits(0,0,0,2)=b1.2.4 "
                + "set(0,0,5)=5 fits(0,0,0,2)=b3.5", "[a0;r9,16,0;z1,1;]=1 sit(0,0)=9 row(0,0,1)=1 set(0,0,1)=1 "
                + "fits(0,0,0,2)=b2");
        edge(24, "Another row tells the BEARINGS of all GUESTS", "[a0;p9,16,0;]=1 row(0,0,0)=0 "
                + "fits(0,0,0,0..2)=1023,131071,62 "
                + "fits(0,0,-1|1,0)=PLACE", "[a0;p9,16,0;]=1 row(0,0,3)=3 fits(0,0,0..4,2)=62,62,62,62,PLACE");
        edge(24, "BAD: CHAIR, ROW, what; NULL; PLACE.", "row(0,0,9)=9 fits(0,0,0,0)=BAD",
                room + "fits(-1|2|MIN|MAX,0,0,0)=BAD fits(0,-1|8|MIN|MAX,0,0)=BAD fits(0,0,0,-1|3|MIN|MAX)=BAD "
                        + "status()=0",
                room + "fits(2,1,0,0)=BAD fits(0,1,-1,3)=BAD fits(0,0,-1,3)=BAD status()=0",
                room + "fits(0,1,-1|0|99,0)=NULL status()=1 fits(0,0,-1|3|40|MIN|MAX,0)=PLACE status()=2 "
                        + "fits(0,0,1,0)=b7.8 status()=0");
        unchanged(24, "FORETOLD (nothing changes).", MUCH + TAPE + "row(6,0,9)=9 ",
                "fits(0..4,6,0..5,0..2) fits(5,6,0,0)=BAD "
                + "fits(0,8,0,0)=BAD fits(0,6,0,3)=BAD fits(0,5,0,0)=NULL fits(0,0,0,0)=PLACE fits(0,6,6,0)=PLACE");
    }

    private static void caned() {
        String two = "[a0;t0,16,0;t9,16,0;z4,1;z5,1;]=2 ";
        edge(25, "(0 is 0 by 1)", two + "caned(10,3,0..1)=0,1 caned(40,0|10,0..1)=0,1,0,1",
                "[a0;t1,1,1;]=1 caned(1,5,0..1)=0,1");
        edge(25, "told as two numbers in lowest terms", two + "caned(1,3,0..1)=1,1 caned(5,5,0..1)=3,4 "
                + "caned(9,4,0..1)=4,25",
                "[a0;t0,16,0;t9,16,0;t0,16,0;t9,16,0;t0,16,0;z5,1;z5,1;z5,1;z5,1;z5,1;]=5 caned(40,1,0..1)=1,100000 "
                + "caned(40,5,0..1)=1,32 caned(40,9,0..1)=59049,100000 caned(40,2,0..1)=1,3125");
        edge(25, "each CHAIR is recaned now by c of 10, each by itself", two + "caned(9,3,0..1)=9,100 "
                + "caned(5,3,0..1)=51,100 "
                + "caned(2,3,0..1)=51,100", two + "caned(9,0,0..1)=0,1 caned(9,10,0..1)=1,1 caned(1,0,0..1)=1,1 "
                + "caned(2,0,0..1)=0,1",
                two + "sit(0,0)=0 caned(5,3,0..1)=3,10 recane(1)=16 caned(5,3,0..1)=1,1");
        edge(25, "then all GUESTS who do not sit sit down, by numbers", "[a0;p9,0,0;p9,0,0;p9,0,0;z1,1;z5,1;z9,1;]=3 "
                + "caned(12,3,0..1)=1,1 "
                + "caned(13,3,0..1)=0,1", "[a0;p9,0,0;p9,0,0;p9,0,0;z1,1;z5,1;z9,1;]=3 sit(0,1)=1 "
                + "caned(8,3,0..1)=1,1 caned(9,3,0)=0");
        edge(25, "that PEACE is q (0 to 40) or more", two + "caned(1,0,0)=1 caned(2,0,0)=0 caned(9,10,0)=1 "
                + "caned(10,10,0)=0",
                "[a9;t0,16,1;t9,16,1;t0,16,1;t9,16,1;z0,1;z0,1;z0,1;z0,1;]=4 caned(0,0,0..1)=0,1 caned(0,10,0..1)=1,1",
                "[a0;t1,1,1;]=1 caned(0,5,0..1)=1,1",
                "[a0;t0,16,0;t0,16,0;t0,16,0;t0,16,0;t0,16,0;z9,1;z9,1;z9,1;z9,1;z9,1;]=5 caned(40,1,0..1)=1181,2000");
        edge(25, "each on the first CHAIR on which nobody sits (none left: he stands)",
                "[a0;t4,16,0;t4,16,0;z4,1;z5,1;z9,1;]=2 caned(10,5,0..1)=1,2 caned(9,5,0..1)=1,1 caned(11,5,0..1)=0,1",
                "[a0;t1,16,0;p9,0,0;p9,0,0;z3,1;z2,1;z8,1;]=3 sit(1,0)=1 caned(13,5,0..1)=1,1 caned(14,5,0..1)=0,1",
                "[a0;t1,16,0;t1,16,0;z3,1;]=2 caned(0,5,0)=1 caned(1,5,0)=0",
                "[a0;r4,16,0;t4,16,0;z4,1;z5,1;z9,1;]=2 caned(10,0,0..1)=1,1",
                "[a0;t1,16,0;z3,1;]=1 sit(0,0)=1 caned(0,5,0..1)=1,1 caned(1,5,0..1)=0,1",
                "[a0;t1,16,0;t1,16,0;z3,1;z3,1;]=2 sit(1,1)=1 caned(10,5,0..1)=1,2 sit(0,0)=1 caned(10,5,0..1)=1,1");
        edge(25, "CANED (c 0 to 10): above (what = 0), below (1). BAD; STATE: no ROOM (ahead of BAD).",
                "caned(0,0,0)=STATE caned(41,0,0)=STATE caned(0,11,0)=STATE caned(0,0,2)=STATE",
                two + "caned(-1|41|MIN|MAX,0,0)=BAD caned(0,-1|11|MIN|MAX,0)=BAD caned(0,0,-1|2|MIN|MAX)=BAD",
                two + "caned(0|40,0|10,0..1)=1,1,1,1,0,1,0,1");
        unchanged(25, "FORETOLD (nothing changes).", MUCH + TAPE,
                "caned(0..10,5,0..1) caned(41,0,0)=BAD caned(0,11,0)=BAD caned(0,0,2)=BAD");
    }

    /** X from 1 on: 16807, 282475249, 1622650073, 984943658, 1144108930, 470211272, 101027544, 1457850878, .. */
    private static void drawn() {
        String five = "[a0;t1,16,0;t2,16,0;t3,16,0;t4,16,0;t5,16,0;z0,1;z0,1;z0,1;z0,1;z0,1;]=5 ";
        edge(26, "each time X becomes the rest of (X times 16807) by 2147483647", five + "drawn(1..5,1,0)=3,8,12,16,17 "
                + "drawn(10,1,0)=38 drawn(15,1,0)=49 drawn(1,999999,0)=5");
        String two = "[a0;t9,0,0;t9,0,0;z1,1;z2,1;z3,1;]=2 ";
        edge(26, "all BEARINGS together; all MANNERS together then.", two + "drawn(0..4,1,0)=0,2,4,6,9 "
                + "drawn(0..4,1,1)=18,11,11,11,5",
                "[a0;p8,16,0;z2,9;z4,1;z0,9;]=1 drawn(2,1,0)=15");
        edge(26, "(whoever sits there; no GUESTS: nobody)", two + "sit(0,1)=1 sit(1,0)=2 drawn(4,1,0..1)=5,3",
                "[a0;t4,0,0;b7,3,0;]=2 drawn(60,999999,0..1)=0,11 drawn(0,1,0..1)=0,11");
        edge(26, "EVENING of n (0 to 60)", "[a0;t9,16,0;z1,1;]=1 drawn(0|60,1,0)=0,540 drawn(0|60,1,1)=9",
                "[a0;t9,16,0;z1,1;]=1 drawn(-1|61|MIN|MAX,1,0)=BAD");
        edge(26, "EVENING by a SEED (1 to 999999)", "[a0;t9,16,0;z1,1;]=1 drawn(1,1|999999,0)=9 "
                + "drawn(1,0|1000000|-1|MIN|MAX,0)=BAD "
                + "drawn(0,0,0)=BAD");
        edge(26, "BEARINGS (what = 0), MANNERS (1). BAD; STATE: no ROOM (ahead of BAD).",
                "drawn(0,1,0)=STATE drawn(61,1,0)=STATE drawn(0,0,0)=STATE drawn(0,1,2)=STATE",
                five + "drawn(1,1,-1|2|MIN|MAX)=BAD drawn(0,1,0..1)=0,15");
        unchanged(26, "FORETOLD (nothing changes).", MUCH + TAPE,
                "drawn(0..60,7,0..1) drawn(61,1,0)=BAD drawn(1,0,0)=BAD drawn(1,1,2)=BAD");
    }

    private static void image() {
        edge(27, "An IMAGE (0, 1) is kept of the ROOM: 1.", "[a1;p1,1,1;]=1 image(0|1)=1 image(-1|2|MIN|MAX)=BAD",
                "[a1;p1,1,1;]=1 image(0)=1 [a2;t2,2,2;t3,3,3;]=2 image(1)=1 restore(0)=1 count(1)=1 restore(1)=1 "
                + "count(1)=2",
                "[a1;p1,1,1;]=1 image(0)=1 [a2;t2,2,2;]=1 image(0)=1 restore(0)=1 kind(0)=4 restore(1)=STATE");
        edge(27, "BAD; STATE: no ROOM.", "image(0..1)=STATE image(-1|2)=BAD", "[a10;]=@1 image(0)=STATE "
                + "restore(0)=STATE");
        unchanged(27, "What is refused, or found, changes nothing but status().", MUCH + TAPE,
                "image(-1|2|MIN|MAX)=BAD");
        // an image of what the image 0 was taken of already: nothing else changes
        unchanged(27, "is kept of the ROOM: 1.", MUCH + "restore(0)=1 " + TAPE, "image(0)=1");
    }

    private static void restore() {
        edge(28, "The ROOM is as an IMAGE kept it", ROOM + "sit(0,0)=7 sit(2,2)=2 image(1)=1 rise(0)=0 recane(1)=10 "
                + "move(1)=0 "
                + "[a1;p1,1,1;]=1 restore(1)=1 count(1..6)=5,4,5,5,4,0 "
                + "chair(0..2,0..4)=7,12,1,1,0,2,10,1,0,NONE,5,16,1,1,2 "
                + "guest(0..2,2..3)=0,7,NONE,NONE,2,2 kind(0..4)=1,2,3,4,5 peace()=0",
                ROOM + "image(0)=1 sit(0,0)=7 restore(0)=1 chair(0,0..4)=7,16,1,0,NONE sit(0,0)=7 recane(1)=10 "
                + "restore(0)=1 chair(0..1,1)=16,10 count(3)=0", "[a3;p1,1,1;]=1 image(0)=1 " + ROOM + "restore(0)=1 "
                + "count(1..5)=1,0,0,0,3 chair(1,0)=BAD guest(0,0)=BAD",
                "[a0;t1,16,0;t2,16,0;t3,16,0;t4,16,0;t5,16,0;z9,1;z9,1;z9,1;z9,1;z9,1;]=5 sit(4,0)=1 sit(3,1)=2 "
                + "sit(2,2)=3 "
                + "sit(1,3)=4 sit(0,4)=5 image(0)=1 rise(4)=0 [a1;p1,1,1;]=1 restore(0)=1 "
                + "guest(0..4,2..3)=4,5,3,4,2,3,1,2,0,1 "
                + "chair(0..4,0)=1,2,3,4,5 chair(0..4,4)=4,3,2,1,0 peace()=36 seating(-1..4)=36,4,3,2,1,0 "
                + "caned(36,5,0..1)=1,1");
        edge(28, "(no ACT can be undone then)", ROOM + "sit(0,0)=7 image(0)=1 count(6)=1 recane(0)=12 restore(0)=1 "
                + "count(6)=0 "
                + "undo()=STATE chair(0,1)=12 recane(0)=12 undo()=0 chair(0,1)=12", ROOM + "image(0)=1 25*move(0)=0 "
                + "restore(0)=1 undo()=STATE 25*move(0)=0 24*undo()=0 undo()=STATE kind(0)=2");
        edge(28, "BAD; STATE: none was kept.", "restore(0..1)=STATE restore(-1|2|MIN|MAX)=BAD",
                "[a1;p1,1,1;]=1 restore(0..1)=STATE image(0)=1 restore(1)=STATE restore(0)=1 restore(2)=BAD",
                "image(0)=STATE [a1;p1,1,1;]=1 restore(0)=STATE");
        unchanged(28, "What is refused, or found, changes nothing but status().", MUCH + TAPE,
                "restore(-1|2|MIN|MAX)=BAD");
        unchanged(28, "What is refused, or found, changes nothing but status().", ROOM + "image(1)=1 sit(0,0)=7 "
                + "sit(1,1)=4 " + TAPE, "restore(0)=STATE");
    }

    // ---- asked

    private static void kinds() {
        edge(29, "The KIND of a CHAIR, as told (1 to 5). BAD.", ROOM + "kind(0..4)=1,2,3,4,5 kind(-1|5|MIN|MAX)=BAD",
                "kind(0)=BAD", "[a0;d1,1,1;]=1 kind(0|1)=5,BAD", ROOM + "move(0)=0 kind(0..1)=2,1 undo()=0 "
                + "kind(0..1)=1,2");
        unchanged(29, "What is refused, or found, changes nothing but status().", MUCH + TAPE,
                "kind(0..4) kind(-1|5)=BAD");
        edge(30, "0 CHAIR; 1 PLAIN, a CHAIR; 2 ROCKER, a PLAIN; 3 BARBERS, a PLAIN; 4 THRONE, a CHAIR; 5 DENTISTS, a "
                + "THRONE.",
                ROOM + "as(0,0..5)=0,0,KIND,KIND,KIND,KIND as(1,0..5)=1,1,1,KIND,KIND,KIND "
                + "as(2,0..5)=2,2,KIND,2,KIND,KIND as(3,0..5)=3,KIND,KIND,KIND,3,KIND as(4,0..5)=4,KIND,KIND,KIND,4,4");
        edge(30, "A CHAIR is taken as one of a KIND (0 .. 5): its place. BAD; KIND: it is no such one.",
                "as(0,0)=BAD", ROOM + "as(0,-1|6|MIN|MAX)=BAD as(-1|5|MIN|MAX,0)=BAD status()=0 as(0,5)=KIND "
                + "status()=3 "
                + "as(5,5)=BAD status()=3 as(4,5)=4 status()=0");
        unchanged(30, "What is refused, or found, changes nothing but status().", MUCH + TAPE,
                "as(0..4,0..5) as(5|-1,0)=BAD as(0,6|-1)=BAD as(0,4)=KIND as(4,5)=KIND");
    }

    private static void asks() {
        edge(31, "Of an ask the BODY told for the KIND begins, else that of the nearest KIND that it is, too, else "
                + "the one that is lent",
                ROOM + "ask(0,0)=24 trace(0..4)=11,10,21,20,NONE", ROOM + "ask(0,1)=23 trace(0..2)=21,20,NONE",
                ROOM + "ask(1,0)=-25 trace(0..6)=12,11,10,24,21,20,NONE",
                ROOM + "ask(1,1)=24 trace(0..3)=24,21,20,NONE", ROOM + "ask(2,0)=-982 trace(0..5)=11,10,22,21,20,NONE",
                ROOM + "ask(2,1)=-983 trace(0..3)=22,21,20,NONE", ROOM + "ask(3,0)=-98 trace(0..2)=13,10,NONE",
                ROOM + "ask(3,1)=101 trace(0..4)=23,20,13,10,NONE", ROOM + "ask(4,0)=-196 trace(0..3)=14,13,10,NONE",
                ROOM + "ask(4,1)=197 trace(0..5)=23,20,14,13,10,NONE");
        edge(31, "SIZE, MARK within others are asked of the same CHAIR anew",
                "[a0;r0,0,0;b9,16,3;d9,16,3;d0,0,0;p9,16,3;]=5 "
                + "ask(0..4,0)=0,-972,-194,-200,28 ask(0..4,1)=0,-975,203,200,25");
        edge(31, "An ASK (0, 1) of a CHAIR. BAD.", "ask(0,0)=BAD", ROOM + "ask(-1|5|MIN|MAX,0)=BAD "
                + "ask(0,-1|2|MIN|MAX)=BAD");
        edge(31, "THE TRACE is empty ahead of it.", ROOM + "ask(1,0)=-25 ask(0,1)=23 "
                + "trace(0..6)=21,20,NONE,NONE,NONE,NONE,NONE",
                ROOM + "20*ask(1,0)=-25 trace(0..6)=12,11,10,24,21,20,NONE");
        unchanged(31, "What is refused, or found, changes nothing but status().", MUCH + TAPE,
                "ask(-1|5,0)=BAD ask(0,-1|2)=BAD");
        edge(32, "Number i of THE TRACE; NONE.", "trace(-1..17)=NONE", ROOM + "trace(0)=NONE ask(0,1)=23 "
                + "trace(-1|0|1|2|15|16|MIN|MAX)=NONE,21,20,NONE,NONE,NONE,NONE,NONE",
                ROOM + "ask(0,1)=23 ask(9,1)=BAD ask(0,9)=BAD trace(0..2)=21,20,NONE");
        edge(32, "each of which leaves its number in THE TRACE as it begins (the first 16)",
                ROOM + "ask(1,0)=-25 "
                        + "trace(0..16)=12,11,10,24,21,20,NONE,NONE,NONE,NONE,NONE,NONE,NONE,NONE,NONE,NONE,NONE");
        unchanged(32, "Number i of THE TRACE; NONE.", MUCH + TAPE, "trace(-1..17) trace(MIN|MAX)=NONE");
    }

    private static void count() {
        edge(33, "0 ROWS", "count(0)=0 row(0..7,0,0)=0 count(0)=8 row(0,0,-1)=SIZE count(0)=8 drop(0..7)=0 count(0)=0");
        edge(33, "1 CHAIRS, 2 GUESTS", "count(1..2)=0 [a0;p1,1,1;]=1 count(1..2)=1,0 " + ROOM
                + "count(1..2)=5,4 [a10;]=@1 "
                + "count(1..2)=5,4");
        edge(33, "Sets are bits.", ROOM + "sit(2,1)=3 count(3..4)=4,2 between(4,4,16,0)=8 between(0,7,12,0)=15");
        edge(33, "3 who sit (bits), 4 CHAIRS taken (bits)", ROOM + "count(3..4)=0 sit(3,0)=7 count(3..4)=b3,b0 "
                + "sit(0,4)=5 "
                + "count(3..4)=b0.3,b0.4 move(0)=0 count(3..4)=b0.3,b1.4 rise(3)=1 count(3..4)=b0,b4 undo()=3 "
                + "count(4)=b1.4",
                "[a0;t1,1,1;t1,1,1;t1,1,1;t1,1,1;t1,1,1;z1,1;z1,1;z1,1;z1,1;z1,1;]=5 sit(0,4) sit(1,3) sit(2,2) "
                + "sit(3,1) "
                + "sit(4,0) count(3..4)=31");
        edge(33, "5 STRIFE", "count(5)=0 [a9;p1,1,1;]=1 count(5)=9 [a0;p1,1,1;]=1 count(5)=0");
        edge(33, "6 ACTS that can be undone", "count(6)=0 " + ROOM + "count(6)=0 24*move(0)=0 count(6)=24 move(0)=0 "
                + "count(6)=24 "
                + "undo()=23 count(6)=23 would(0,0,0) image(0)=1 count(6)=23 restore(0)=1 count(6)=0");
        edge(33, "7 bytes on the tape. BAD.", "count(7)=0 feed(1)=1 count(7)=1 99*feed(1)=100 count(7)=100 "
                + "feed(1)=FULL count(7)=100 "
                + "room()=@0 count(7)=0", "count(-1|8|MIN|MAX)=BAD", ROOM + "count(-1|8|MIN|MAX)=BAD");
        unchanged(33, "What is refused, or found, changes nothing but status().", MUCH + TAPE,
                "count(0..7) count(-1|8)=BAD");
    }

    private static void status() {
        edge(34, "0: it had none, or there was none.", "status()=0 status()=0", "row(0,0,-1)=SIZE status()=4 "
                + "row(0,0,1)=1 status()=0",
                "set(0,0,1)=NULL status()=1 row(0,0,1)=1 set(0,0,1)=1 status()=0",
                "row(0,0,1)=1 set(0,1,1)=PLACE status()=2 "
                + "copy(0,0,0,0,1)=1 status()=0", "row(0,0,1)=1 row(1,1,1)=1 copy(0,0,1,0,1)=STORE status()=5 "
                + "drop(0)=1 status()=0",
                ROOM + "as(0,4)=KIND status()=3 as(0,1)=0 status()=0",
                ROOM + "row(0,0,9)=9 as(0,4)=KIND status()=3 owns(0,0,0)=0 status()=0",
                ROOM + "row(0,0,9)=9 as(0,4)=KIND status()=3 fits(0,0,0,0)=0 status()=0");
        edge(34, "Of the latest call with a ROW, or as(), that was not BAD, STATE, FULL: the number of its FINDING",
                "row(0,0,-1)=SIZE row(8,0,1)=BAD set(8,0,0)=BAD copy(8,0,8,0,0)=BAD drop(8)=BAD owns(0,0,0)=BAD "
                + "fits(0,0,0,0)=BAD "
                + "as(0,0)=BAD status()=4", "drop(0)=NULL 100*feed(1)=100 feed(1)=FULL undo()=STATE peace()=STATE "
                + "image(0)=STATE "
                + "room()=@0 fault()=1 count(0)=0 count(9)=BAD trace(0)=NONE status()=1",
                ROOM + "as(0,4)=KIND sit(0,0)=7 sit(0,0)=STATE rise(0)=0 recane(0)=12 move(0)=0 undo()=3 chair(0,0)=7 "
                + "guest(0,0)=0 peace()=0 would(0,0,0)=0 seating(-1) warm(0,0,0,0) pure(0,0) between(0,0,0,0)=0 "
                + "trios(0)=1 "
                + "caned(0,0,0)=1 drawn(0,1,0)=0 image(0)=1 restore(0)=1 kind(0)=1 ask(0,0) trace(0)=11 count(0)=0 "
                + "status()=3 "
                + "status()=3 [a1;p1,1,1;]=1 status()=3",
                "row(0,0,1)=1 drop(1)=NULL status()=1 set(0,5,1)=PLACE status()=2 row(0,0,-5)=SIZE status()=4");
        edge(34, "1 NULL (a ROW that is missing), 2 PLACE (no such place of a ROW), 3 KIND (a CHAIR that is not "
                + "that), 4 SIZE "
                + "(fewer than none), 5 STORE (ROWS of two LANES)", "set(0,0,0)=-1000011 row(0,0,0)=0 "
                + "set(0,0,0)=-1000012 "
                + "row(0,0,-1)=-1000014 row(1,1,0)=0 copy(0,0,1,0,0)=-1000015 " + ROOM + "as(0,2)=-1000013");
    }

    // ---- all of it

    private static void readDocument() {
        Path path = Path.of("../shared/DOC.md");
        try {
            document = Files.readString(path).replaceAll("\\s+", " ");
        } catch (IOException e) {
            System.out.println("no document at " + path + ": its words are not compared");
        }
    }

    public static void main(String[] args) {
        readDocument();
        for (Method m : ChairPast.class.getMethods()) {
            if (m.getDeclaringClass() == ChairPast.class) {
                CALLS.put(m.getName(), m);
            }
        }
        newObject();
        row();
        set();
        copy();
        drop();
        feed();
        numbersOfTexts();
        endsOfTexts();
        bytesOfTexts();
        room();
        fault();
        bearings();
        sit();
        rise();
        recane();
        move();
        undo();
        chair();
        guest();
        peace();
        would();
        seating();
        warm();
        pure();
        between();
        trios();
        owns();
        fits();
        caned();
        drawn();
        image();
        restore();
        kinds();
        asks();
        count();
        status();
        for (int promise = 1; promise <= PROMISES; promise++) {
            if (!COVERED.contains(promise)) {
                complain("promise " + promise, "no sentence of it has a test");
            }
        }
        System.out.println(QUOTED.size() + " sentences, " + looked + " answers looked at, " + wrong + " not as due");
        if (wrong != 0) {
            System.exit(1);
        }
    }
}
