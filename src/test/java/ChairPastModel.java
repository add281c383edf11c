import java.math.BigInteger;
import java.util.ArrayDeque;
import java.util.ArrayList;
import java.util.Arrays;
import java.util.List;
import java.util.Random;

/** Pseudo-random runs (always the same) of all calls, against a second, plain way to work out each answer. */
public final class ChairPastModel {
    static final int NONE = -1000000, BAD = -1000001, STATE = -1000002, FULL = -1000003;
    static final int RUNS = 8000, CALLS = 390;
    static final String SORTS = "?prbtd";

    /** The document once more, in its own order and with the Java library. */
    static final class Model {
        static final class Seat {
            char sort;
            int manner, strength, set, sat, who = -1;

            Seat twin() {
                Seat s = new Seat();
                s.sort = sort;
                s.manner = manner;
                s.strength = strength;
                s.set = set;
                s.sat = sat;
                s.who = who;
                return s;
            }

            int plain(int m, int own) {
                return (m * strength + own * (16 - strength)) / 16;
            }

            int bearing(int own) {
                switch (sort) {
                    case 'p': return plain(manner, own);
                    case 'r': return sat % 2 == 0 ? plain(manner, own) : own;
                    case 'b': return plain(manner == 9 ? 0 : manner + 1, own);
                    case 't': return strength == 0 ? own : manner;
                    default: return Math.max(5, strength == 0 ? own : manner);
                }
            }

            int sitDown(int own, int will) {
                int b = bearing(own);
                sat = sat == 999 ? 999 : sat + 1;
                if ("prb".indexOf(sort) >= 0) {
                    strength -= (int) Math.ceil(strength / 4.0);
                }
                if (sort == 'b') {
                    manner = manner == 9 ? 0 : manner + 1;
                }
                if (strength < will) {
                    manner = own;
                    strength = 16;
                }
                return b;
            }
        }

        static final class Person {
            int own, will, bearing = NONE;

            Person twin() {
                Person p = new Person();
                p.own = own;
                p.will = will;
                p.bearing = bearing;
                return p;
            }
        }

        static final class Hall {
            List<Seat> seats = new ArrayList<>();
            List<Person> people = new ArrayList<>();
            int strife;

            Hall twin() {
                Hall h = new Hall();
                h.strife = strife;
                for (Seat s : seats) h.seats.add(s.twin());
                for (Person p : people) h.people.add(p.twin());
                return h;
            }

            int whereIs(int g) {
                for (int i = 0; i < seats.size(); i++) if (seats.get(i).who == g) return i;
                return NONE;
            }

            int bearingAt(int c) {
                return people.get(seats.get(c).who).bearing;
            }

            boolean taken(int c) {
                return seats.get(c).who >= 0;
            }

            boolean trio(int c) {
                return seats.get(c).set == seats.get(c + 1).set && seats.get(c).set == seats.get(c + 2).set;
            }

            int peace() {
                int sum = 0;
                for (int c = 1; c < seats.size(); c++) {
                    if (taken(c - 1) && taken(c)) sum += 10 - Math.abs(bearingAt(c - 1) - bearingAt(c));
                }
                for (int c = 2; c < seats.size(); c++) {
                    if (taken(c - 2) && taken(c - 1) && taken(c) && trio(c - 2)) sum -= strife;
                }
                return sum;
            }

            int sit(int g, int c) {
                Person p = people.get(g);
                p.bearing = seats.get(c).sitDown(p.own, p.will);
                seats.get(c).who = g;
                return p.bearing;
            }
        }

        int[] lane = new int[8];
        int[][] items = new int[8][];
        List<Integer> tape = new ArrayList<>();
        Hall hall;
        Hall[] images = new Hall[2];
        ArrayDeque<Hall> past = new ArrayDeque<>();
        List<Integer> trace = new ArrayList<>();
        int fault, status;

        int chairs() {
            return hall == null ? 0 : hall.seats.size();
        }

        int guests() {
            return hall == null ? 0 : hall.people.size();
        }

        boolean noChair(int c) {
            return c < 0 || c >= chairs();
        }

        boolean noGuest(int g) {
            return g < 0 || g >= guests();
        }

        static boolean off(int v, int a, int b) {
            return v < a || v > b;
        }

        int finding(int n) {
            status = n;
            return -1000010 - n;
        }

        int fine(int v) {
            status = 0;
            return v;
        }

        int row(int r, int l, int n) {
            if (off(r, 0, 7) || off(l, 0, 2) || n > 40) return BAD;
            if (n < 0) return finding(4);
            lane[r] = l;
            items[r] = new int[n];
            return fine(n);
        }

        int set(int r, int i, int v) {
            if (off(r, 0, 7)) return BAD;
            if (items[r] == null) return finding(1);
            if (off(i, 0, items[r].length - 1)) return finding(2);
            int bits = 8 << lane[r];
            items[r][i] = v << 32 - bits >> 32 - bits;
            return fine(items[r][i]);
        }

        static boolean beyond(int[] a, int i, int n) {
            return i < 0 || n < 0 || (long) i + n > a.length;
        }

        int copy(int a, int i, int b, int j, int n) {
            if (off(a, 0, 7) || off(b, 0, 7)) return BAD;
            if (items[a] == null || items[b] == null) return finding(1);
            if (lane[a] != lane[b]) return finding(5);
            if (beyond(items[a], i, n) || beyond(items[b], j, n)) return finding(2);
            int[] old = items[a].clone();
            for (int k = 0; k < n; k++) items[b][j + k] = old[i + k];
            return fine(n);
        }

        int drop(int r) {
            if (off(r, 0, 7)) return BAD;
            if (items[r] == null) return finding(1);
            int had = items[r].length;
            items[r] = null;
            return fine(had);
        }

        int feed(int b) {
            if (off(b, 0, 255)) return BAD;
            if (tape.size() == 100) return FULL;
            tape.add(b);
            return tape.size();
        }

        /** Tokens first, then a table of what may stand where. */
        int room() {
            List<int[]> tokens = tokens();
            tape.clear();
            Hall h = new Hall();
            String state = "law";
            int[] had = new int[4];
            int n = 0;
            for (int[] t : tokens) {
                int wrong = 0;
                int type = t[1];
                int v = t[2];
                switch (state) {
                    case "law": wrong = type == 'a' ? 0 : 1; state = "strife"; break;
                    case "strife": wrong = number(type, v, 0, 9); h.strife = v; state = "lawend"; break;
                    case "lawend": wrong = type == ';' ? 0 : 1; state = "chair"; break;
                    case "manner": wrong = number(type, v, 0, 9); had[n++] = v; state = "c1"; break;
                    case "c1": wrong = type == ',' ? 0 : 1; state = "strength"; break;
                    case "strength": wrong = number(type, v, 0, 16); had[n++] = v; state = "c2"; break;
                    case "c2": wrong = type == ',' ? 0 : 1; state = "set"; break;
                    case "set": wrong = number(type, v, 0, 3); had[n++] = v; state = "cend"; break;
                    case "cend":
                        wrong = type == ';' ? 0 : 1;
                        Seat s = h.seats.get(h.seats.size() - 1);
                        s.manner = had[0];
                        s.strength = had[1];
                        s.set = had[2];
                        state = "chairs";
                        break;
                    case "own": wrong = number(type, v, 0, 9); had[n++] = v; state = "g1"; break;
                    case "g1": wrong = type == ',' ? 0 : 1; state = "will"; break;
                    case "will": wrong = number(type, v, 1, 9); had[n++] = v; state = "gend"; break;
                    case "gend":
                        wrong = type == ';' ? 0 : 1;
                        Person p = h.people.get(h.people.size() - 1);
                        p.own = had[0];
                        p.will = had[1];
                        state = "guests";
                        break;
                    default:
                        n = 0;
                        boolean chair = type > 0 && type != '?' && SORTS.indexOf(type) > 0;
                        if (chair && !state.equals("guests")) {
                            wrong = h.seats.size() == 5 ? 3 : 0;
                            h.seats.add(new Seat());
                            h.seats.get(h.seats.size() - 1).sort = (char) type;
                            state = "manner";
                        } else if (type == 'z' && !state.equals("chair")) {
                            wrong = h.people.size() == 5 ? 3 : 0;
                            h.people.add(new Person());
                            state = "own";
                        } else {
                            wrong = type == 'E' && !state.equals("chair") ? 0 : 1;
                        }
                        break;
                }
                if (wrong != 0) {
                    fault = wrong;
                    return -1000100 - t[0];
                }
            }
            hall = h;
            past.clear();
            return h.seats.size();
        }

        static int number(int type, int v, int a, int b) {
            return type != 'N' ? 1 : off(v, a, b) ? 2 : 0;
        }

        /** Place, type (letter, sign, N a number, E the end, 0 none), value. */
        List<int[]> tokens() {
            List<int[]> out = new ArrayList<>();
            int i = 0;
            while (i < tape.size()) {
                int b = tape.get(i);
                int end = i + 1;
                int type = b >= 'a' && b <= 'z' || b == ',' || b == ';' ? b : 0;
                int v = 0;
                if (b >= '0' && b <= '9') {
                    StringBuilder figures = new StringBuilder();
                    for (end = i; end < tape.size() && tape.get(end) >= '0' && tape.get(end) <= '9'; end++) {
                        figures.append((char) (int) tape.get(end));
                    }
                    type = figures.length() <= 2 ? 'N' : 0;
                    v = type == 'N' ? Integer.parseInt(figures.toString()) : 0;
                }
                out.add(new int[] {i, type, v});
                i = end;
            }
            out.add(new int[] {tape.size(), 'E', 0});
            return out;
        }

        void act() {
            past.addLast(hall.twin());
            if (past.size() > 24) past.removeFirst();
        }

        int sit(int g, int c) {
            if (noGuest(g) || noChair(c)) return BAD;
            if (hall.whereIs(g) != NONE || hall.taken(c)) return STATE;
            act();
            return hall.sit(g, c);
        }

        int rise(int g) {
            if (noGuest(g)) return BAD;
            int c = hall.whereIs(g);
            if (c == NONE) return STATE;
            act();
            hall.seats.get(c).who = -1;
            hall.people.get(g).bearing = NONE;
            return c;
        }

        int recane(int c) {
            if (noChair(c)) return BAD;
            act();
            int had = hall.seats.get(c).strength;
            hall.seats.get(c).strength = 0;
            return had;
        }

        int move(int c) {
            if (noChair(c) || noChair(c + 1)) return BAD;
            act();
            hall.seats.add(c, hall.seats.remove(c + 1));
            return hall.peace();
        }

        int undo() {
            if (past.isEmpty()) return STATE;
            hall = past.removeLast();
            return past.size();
        }

        int chair(int c, int what) {
            if (noChair(c) || off(what, 0, 4)) return BAD;
            Seat s = hall.seats.get(c);
            return new int[] {s.manner, s.strength, s.set, s.sat, s.who < 0 ? NONE : s.who}[what];
        }

        int guest(int g, int what) {
            if (noGuest(g) || off(what, 0, 3)) return BAD;
            Person p = hall.people.get(g);
            return new int[] {p.own, p.will, hall.whereIs(g), p.bearing}[what];
        }

        int peace() {
            return hall == null ? STATE : hall.peace();
        }

        int tryOn(Seat s, int g) {
            return s.sitDown(hall.people.get(g).own, hall.people.get(g).will);
        }

        int would(int g, int c, int what) {
            if (noGuest(g) || noChair(c) || off(what, 0, 2)) return BAD;
            Seat s = hall.seats.get(c).twin();
            int b = tryOn(s, g);
            return new int[] {b, s.manner, s.strength}[what];
        }

        int seating(int k) {
            if (hall == null) return STATE;
            if (off(k, -1, 4)) return BAD;
            int[] best = null;
            int most = 0;
            int all = (int) Math.pow(chairs(), guests());
            for (int code = 0; code < all; code++) {
                int[] where = new int[guests()];
                int rest = code;
                for (int g = guests() - 1; g >= 0; g--) {
                    where[g] = rest % chairs();
                    rest /= chairs();
                }
                Hall h = hall.twin();
                boolean may = true;
                for (int g = 0; g < guests() && may; g++) {
                    if (hall.whereIs(g) != NONE) {
                        may = hall.whereIs(g) == where[g];
                    } else if (h.taken(where[g])) {
                        may = false;
                    } else {
                        h.sit(g, where[g]);
                    }
                }
                if (may && (best == null || h.peace() > most)) {
                    best = where;
                    most = h.peace();
                }
            }
            if (best == null) return NONE;
            return k == -1 ? most : k < best.length ? best[k] : NONE;
        }

        List<Integer> warmth(Seat s, int g, int bearing, int left) {
            if (left == 0) return s.bearing(hall.people.get(g).own) == bearing ? new ArrayList<>() : null;
            for (int first = 0; first < guests(); first++) {
                Seat t = s.twin();
                tryOn(t, first);
                List<Integer> rest = warmth(t, g, bearing, left - 1);
                if (rest != null) {
                    rest.add(0, first);
                    return rest;
                }
            }
            return null;
        }

        int warm(int g, int c, int bearing, int k) {
            if (noGuest(g) || noChair(c) || off(bearing, 0, 9) || off(k, -1, 2)) return BAD;
            for (int n = 0; n <= 3; n++) {
                List<Integer> found = warmth(hall.seats.get(c), g, bearing, n);
                if (found != null) return k == -1 ? n : k < n ? found.get(k) : NONE;
            }
            return NONE;
        }

        int pure(int g, int c) {
            if (noGuest(g) || noChair(c)) return BAD;
            Seat s = hall.seats.get(c).twin();
            for (int n = 0; n <= 20; n++) {
                if (s.bearing(hall.people.get(g).own) == hall.people.get(g).own) return n;
                tryOn(s, g);
            }
            return NONE;
        }

        int between(int c, int m, int st, int what) {
            if (noChair(c) || off(m, 0, 9) || off(st, 0, 16) || off(what, 0, 1)) return BAD;
            int bits = 0;
            int pairs = 0;
            for (int g = 0; g < guests(); g++) {
                Seat s = hall.seats.get(c).twin();
                tryOn(s, g);
                if (s.manner == m && s.strength == st) bits += 1 << g;
                for (int h = 0; h < guests(); h++) {
                    Seat t = s.twin();
                    tryOn(t, h);
                    if (t.manner == m && t.strength == st) pairs++;
                }
            }
            return what == 0 ? bits : pairs;
        }

        int trios(int what) {
            if (hall == null) return STATE;
            if (off(what, 0, 1)) return BAD;
            List<Integer> all = new ArrayList<>();
            for (int c = 0; c < chairs() - 2; c++) if (hall.trio(c)) all.add(c);
            return what == 0 ? all.size() : all.isEmpty() ? NONE : all.get(0);
        }

        int owns(int g, int r, int i) {
            if (noGuest(g) || off(r, 0, 7)) return BAD;
            if (items[r] == null) return finding(1);
            if (beyond(items[r], i, chairs())) return finding(2);
            int bits = 0;
            for (int own = 0; own < 10; own++) {
                int[] row = new int[chairs()];
                for (int c = 0; c < row.length; c++) row[c] = hall.seats.get(c).bearing(own);
                if (Arrays.equals(row, Arrays.copyOfRange(items[r], i, i + row.length))) bits |= 1 << own;
            }
            return fine(bits);
        }

        int[] bearings(Seat s) {
            int[] row = new int[guests()];
            for (int g = 0; g < row.length; g++) row[g] = tryOn(s, g);
            return row;
        }

        int fits(int c, int r, int i, int what) {
            if (noChair(c) || off(r, 0, 7) || off(what, 0, 2)) return BAD;
            if (items[r] == null) return finding(1);
            if (beyond(items[r], i, guests())) return finding(2);
            int[] told = Arrays.copyOfRange(items[r], i, i + guests());
            int bits = 0;
            for (int v = 0; v <= 16; v++) {
                Seat s = hall.seats.get(c).twin();
                if (what == 0 && v <= 9) s.manner = v;
                else if (what == 1) s.strength = v;
                else if (what == 2 && v >= 1 && v <= 5) s.sort = SORTS.charAt(v);
                else continue;
                if (Arrays.equals(bearings(s), told)) bits |= 1 << v;
            }
            return fine(bits);
        }

        /** The chance from CHAIR c on, by 10 to the power of all CHAIRS. */
        BigInteger chance(Hall h, int c, int q, int tenths, BigInteger weight) {
            if (c == chairs()) {
                Hall t = h.twin();
                for (int g = 0; g < guests(); g++) {
                    if (t.whereIs(g) != NONE) continue;
                    for (int s = 0; s < chairs(); s++) {
                        if (!t.taken(s)) {
                            t.sit(g, s);
                            break;
                        }
                    }
                }
                return t.peace() >= q ? weight : BigInteger.ZERO;
            }
            Hall yes = h.twin();
            yes.seats.get(c).strength = 0;
            return chance(yes, c + 1, q, tenths, weight.multiply(BigInteger.valueOf(tenths)))
                    .add(chance(h, c + 1, q, tenths, weight.multiply(BigInteger.valueOf(10 - tenths))));
        }

        int caned(int q, int c, int what) {
            if (hall == null) return STATE;
            if (off(q, 0, 40) || off(c, 0, 10) || off(what, 0, 1)) return BAD;
            BigInteger above = chance(hall, 0, q, c, BigInteger.ONE);
            BigInteger below = BigInteger.TEN.pow(chairs());
            BigInteger common = above.gcd(below);
            return (what == 0 ? above : below).divide(common).intValueExact();
        }

        int drawn(int n, int seed, int what) {
            if (hall == null) return STATE;
            if (off(n, 0, 60) || off(seed, 1, 999999) || off(what, 0, 1)) return BAD;
            Hall h = hall.twin();
            BigInteger x = BigInteger.valueOf(seed);
            int sum = 0;
            for (int i = 0; i < n; i++) {
                x = x.multiply(BigInteger.valueOf(16807)).mod(BigInteger.valueOf(2147483647));
                if (guests() > 0) {
                    Person p = h.people.get(x.mod(BigInteger.valueOf(guests())).intValue());
                    sum += h.seats.get(x.mod(BigInteger.valueOf(chairs())).intValue()).sitDown(p.own, p.will);
                }
            }
            int manners = 0;
            for (Seat s : h.seats) manners += s.manner;
            return what == 0 ? sum : manners;
        }

        int image(int k) {
            if (off(k, 0, 1)) return BAD;
            if (hall == null) return STATE;
            images[k] = hall.twin();
            return 1;
        }

        int restore(int k) {
            if (off(k, 0, 1)) return BAD;
            if (images[k] == null) return STATE;
            hall = images[k].twin();
            past.clear();
            return 1;
        }

        int kind(int c) {
            return noChair(c) ? BAD : SORTS.indexOf(hall.seats.get(c).sort);
        }

        static final int[] PARENT = {-1, 0, 1, 1, 0, 4};

        int as(int c, int kind) {
            if (noChair(c) || off(kind, 0, 5)) return BAD;
            for (int k = kind(c); k >= 0; k = PARENT[k]) if (k == kind) return fine(c);
            return finding(3);
        }

        /** The body of an ask for a kind, or the nearest that it is. */
        static final int[][] BODY = {{10, 11, 12, 0, 13, 14}, {20, 21, 24, 22, 23, 0}};

        int ask(int c, int what) {
            if (noChair(c) || off(what, 0, 1)) return BAD;
            trace.clear();
            return asked(hall.seats.get(c), what, SORTS.indexOf(hall.seats.get(c).sort));
        }

        int asked(Seat s, int what, int kind) {
            int k = kind;
            while (BODY[what][k] == 0) k = PARENT[k];
            int body = BODY[what][k];
            if (trace.size() < 16) trace.add(body);
            int over = k == 0 ? 0 : asked(s, what, PARENT[k]);
            int whole = SORTS.indexOf(s.sort);
            switch (body) {
                case 10: return s.set;
                case 11: return over + asked(s, 1, whole);
                case 12: return -over;
                case 13: return over - 100;
                case 14: return over * 2;
                case 20: return s.manner;
                case 21: return over + s.strength;
                case 22: return over - 1000;
                case 23: return over - asked(s, 0, whole);
                default: return over * 2;
            }
        }

        int trace(int i) {
            return i < 0 || i >= trace.size() ? NONE : trace.get(i);
        }

        int count(int what) {
            int bits = 0;
            switch (what) {
                case 0:
                    for (int[] r : items) if (r != null) bits++;
                    return bits;
                case 1: return chairs();
                case 2: return guests();
                case 3:
                    for (int g = 0; g < guests(); g++) if (hall.whereIs(g) != NONE) bits |= 1 << g;
                    return bits;
                case 4:
                    for (int c = 0; c < chairs(); c++) if (hall.taken(c)) bits |= 1 << c;
                    return bits;
                case 5: return hall == null ? 0 : hall.strife;
                case 6: return past.size();
                case 7: return tape.size();
                default: return BAD;
            }
        }
    }

    // ---- runs

    private final Random random;
    private final ChairPast x = new ChairPast();
    private final Model m = new Model();
    private final List<String> log = new ArrayList<>();
    private int calls;
    private boolean wrong;

    private ChairPastModel(int run) {
        random = new Random(run * 7919L + 17);
    }

    private void same(String call, int got, int want) {
        calls++;
        log.add(call + " = " + got);
        if (got != want && !wrong) {
            wrong = true;
            System.out.println(call + " answered " + got + ", due is " + want);
            for (String row : log.subList(Math.max(0, log.size() - 90), log.size())) System.out.println("    " + row);
        }
    }

    /** Mostly from a to b, at times just outside, at times far. */
    private int pick(int a, int b) {
        int dice = random.nextInt(60);
        if (dice == 0) return a - 1;
        if (dice == 1) return b + 1;
        if (dice == 2) return new int[] {Integer.MIN_VALUE, Integer.MAX_VALUE, -1000000, 64, -7}[random.nextInt(5)];
        return a + random.nextInt(Math.max(1, b - a + 1));
    }

    private int chair() {
        return pick(0, m.chairs() - 1);
    }

    private int guest() {
        return pick(0, m.guests() - 1);
    }

    private void feedText(String text) {
        for (char c : text.toCharArray()) {
            same("feed(" + (int) c + ")", x.feed(c), m.feed(c));
        }
    }

    private String text() {
        StringBuilder s = new StringBuilder("a" + random.nextInt(10) + ";");
        int chairs = random.nextInt(30) == 0 ? random.nextInt(7) : 1 + random.nextInt(5);
        int guests = random.nextInt(30) == 0 ? 6 : random.nextInt(6);
        int sets = 1 + random.nextInt(4);
        for (int i = 0; i < chairs; i++) {
            int strength = random.nextInt(3) == 0 ? random.nextInt(2) * 16 : random.nextInt(17);
            s.append("prbtd".charAt(random.nextInt(5))).append(random.nextInt(10)).append(',').append(strength)
                    .append(',').append(random.nextInt(sets)).append(';');
        }
        for (int i = 0; i < guests; i++) {
            s.append('z').append(random.nextInt(10)).append(',').append(1 + random.nextInt(9)).append(';');
        }
        if (random.nextInt(3) == 0) {
            spoil(s);
        }
        return s.length() > 110 ? s.substring(0, 110) : s.toString();
    }

    private void spoil(StringBuilder s) {
        String bytes = "aprbtdzxA,;:/0123456789 {`\0\u00ff";
        int at = random.nextInt(s.length());
        char c = bytes.charAt(random.nextInt(bytes.length()));
        switch (random.nextInt(5)) {
            case 0: s.setCharAt(at, c); break;
            case 1: s.deleteCharAt(at); break;
            case 2: s.setLength(at); break;
            case 3: s.append(c); break;
            default: s.insert(at, c); break;
        }
    }

    private void newRoom() {
        feedText(text());
        same("room()", x.room(), m.room());
        same("fault()", x.fault(), m.fault);
    }

    /** A row that some bearings fill, so that OWNS, FITS find something. */
    private void tellBearings() {
        if (m.chairs() == 0) return;
        int lane = random.nextInt(3);
        int from = random.nextInt(4);
        int row = random.nextInt(8);
        Model.Seat like = m.hall.seats.get(random.nextInt(m.chairs())).twin();
        boolean owns = random.nextBoolean() && m.guests() > 0;
        int n = owns ? m.chairs() : m.guests();
        int own = random.nextInt(10);
        if (random.nextInt(3) == 0) like.sort = SORTS.charAt(1 + random.nextInt(5));
        if (random.nextInt(3) == 0) like.manner = random.nextInt(10);
        if (random.nextInt(3) == 0) like.strength = random.nextInt(17);
        int[] told = m.bearings(like);
        same("row(" + row + ", " + lane + ", ..)", x.row(row, lane, from + n), m.row(row, lane, from + n));
        for (int i = 0; i < n; i++) {
            int v = owns ? m.hall.seats.get(i).bearing(own) : told[i];
            same("set(" + row + ", " + (from + i) + ", " + v + ")", x.set(row, from + i, v), m.set(row, from + i, v));
        }
        for (int c = 0; c < m.chairs(); c++) {
            int what = random.nextInt(3);
            same("fits(" + c + ", " + row + ", " + from + ", " + what + ")", x.fits(c, row, from, what),
                    m.fits(c, row, from, what));
        }
        if (owns) {
            int g = random.nextInt(m.guests());
            same("owns(" + g + ", " + row + ", " + from + ")", x.owns(g, row, from), m.owns(g, row, from));
        }
        same("status()", x.status(), m.status);
    }

    private void rowCall() {
        int r = pick(0, 7), q = random.nextInt(3) == 0 ? r : pick(0, 7);
        int n = random.nextInt(4) == 0 ? pick(0, 40) : pick(0, 8);
        int i = pick(0, 6), j = pick(0, 6);
        int v = random.nextBoolean() ? random.nextInt(12) : random.nextInt();
        switch (random.nextInt(6)) {
            case 0:
                int lane = pick(0, 2);
                same("row(" + r + ", " + lane + ", " + n + ")", x.row(r, lane, n), m.row(r, lane, n));
                break;
            case 1: case 2: same("set(" + r + ", " + i + ", " + v + ")", x.set(r, i, v), m.set(r, i, v)); break;
            case 3: case 4:
                same("copy(" + r + ", " + i + ", " + q + ", " + j + ", " + n / 2 + ")", x.copy(r, i, q, j, n / 2),
                        m.copy(r, i, q, j, n / 2));
                break;
            default:
                if (random.nextInt(4) == 0) same("drop(" + r + ")", x.drop(r), m.drop(r));
                break;
        }
        same("status()", x.status(), m.status);
        same("count(0)", x.count(0), m.count(0));
    }

    private void actCall() {
        int g = guest(), c = chair();
        switch (random.nextInt(9)) {
            case 0: case 1: case 2: same("sit(" + g + ", " + c + ")", x.sit(g, c), m.sit(g, c)); break;
            case 3: case 4: same("rise(" + g + ")", x.rise(g), m.rise(g)); break;
            case 5: same("recane(" + c + ")", x.recane(c), m.recane(c)); break;
            case 6: same("move(" + c + ")", x.move(c), m.move(c)); break;
            case 7:
                int times = random.nextInt(12) == 0 ? 26 : 1 + random.nextInt(3);
                for (int i = 0; i < times; i++) same("undo()", x.undo(), m.undo());
                break;
            default:
                if (random.nextInt(4) == 0) {
                    int k = pick(0, 1);
                    if (random.nextBoolean()) same("image(" + k + ")", x.image(k), m.image(k));
                    else same("restore(" + k + ")", x.restore(k), m.restore(k));
                }
                break;
        }
        same("peace()", x.peace(), m.peace());
    }

    private void lookCall() {
        for (int c = 0; c <= m.chairs(); c++) {
            for (int what = 0; what < 5; what++) {
                same("chair(" + c + ", " + what + ")", x.chair(c, what), m.chair(c, what));
            }
            same("kind(" + c + ")", x.kind(c), m.kind(c));
        }
        for (int g = 0; g <= m.guests(); g++) {
            for (int what = 0; what < 4; what++) {
                same("guest(" + g + ", " + what + ")", x.guest(g, what), m.guest(g, what));
            }
        }
        for (int what = -1; what < 9; what++) same("count(" + what + ")", x.count(what), m.count(what));
    }

    private void foretoldCall() {
        int g = guest(), c = chair(), w = pick(0, 1), w3 = pick(0, 2);
        switch (random.nextInt(12)) {
            case 0: same("would(" + g + ", " + c + ", " + w3 + ")", x.would(g, c, w3), m.would(g, c, w3)); break;
            case 1:
                int s = pick(-1, 4);
                same("seating(" + s + ")", x.seating(s), m.seating(s));
                break;
            case 2: case 3:
                int b = pick(0, 9), k = pick(-1, 2);
                same("warm(" + g + ", " + c + ", " + b + ", " + k + ")", x.warm(g, c, b, k), m.warm(g, c, b, k));
                break;
            case 4: same("pure(" + g + ", " + c + ")", x.pure(g, c), m.pure(g, c)); break;
            case 5:
                int mn = pick(0, 9), st = random.nextBoolean() ? 16 : pick(0, 16);
                same("between(" + c + ", " + mn + ", " + st + ", " + w + ")", x.between(c, mn, st, w),
                        m.between(c, mn, st, w));
                break;
            case 6: same("trios(" + w + ")", x.trios(w), m.trios(w)); break;
            case 7:
                int q = random.nextBoolean() ? pick(0, 40) : 5 + random.nextInt(20), t = pick(0, 10);
                same("caned(" + q + ", " + t + ", " + w + ")", x.caned(q, t, w), m.caned(q, t, w));
                break;
            case 8:
                int n = pick(0, 60), seed = pick(1, 999999);
                same("drawn(" + n + ", " + seed + ", " + w + ")", x.drawn(n, seed, w), m.drawn(n, seed, w));
                break;
            case 9:
                int kind = pick(0, 5);
                same("as(" + c + ", " + kind + ")", x.as(c, kind), m.as(c, kind));
                same("status()", x.status(), m.status);
                break;
            case 10:
                same("ask(" + c + ", " + w + ")", x.ask(c, w), m.ask(c, w));
                for (int i = -1; i < 8; i++) same("trace(" + i + ")", x.trace(i), m.trace(i));
                break;
            default:
                int r = pick(0, 7), i = pick(0, 6);
                same("owns(" + g + ", " + r + ", " + i + ")", x.owns(g, r, i), m.owns(g, r, i));
                same("fits(" + c + ", " + r + ", " + i + ", " + w3 + ")", x.fits(c, r, i, w3), m.fits(c, r, i, w3));
                same("status()", x.status(), m.status);
                break;
        }
    }

    private boolean go() {
        if (random.nextInt(4) != 0) newRoom();
        while (calls < CALLS && !wrong) {
            int dice = random.nextInt(100);
            if (dice < 3) newRoom();
            else if (dice < 12) rowCall();
            else if (dice < 50) actCall();
            else if (dice < 53) lookCall();
            else if (dice < 58) tellBearings();
            else foretoldCall();
        }
        return !wrong;
    }

    public static void main(String[] args) {
        int wrongs = 0;
        for (int run = 0; run < RUNS && wrongs < 3; run++) {
            ChairPastModel one = new ChairPastModel(run);
            if (!one.go()) {
                System.out.println("that was run " + run);
                wrongs++;
            }
        }
        System.out.println(wrongs == 0 ? "all runs are as the model's" : "runs are not as the model's");
        if (wrongs != 0) System.exit(1);
    }
}
