/** Each promise by its number: ordinary inputs, the edges that the document names, wrong inputs. */
public final class ChairPastPromises {
    private static final int NONE = -1000000, BAD = -1000001, STATE = -1000002, FULL = -1000003;
    private static final int NULL = -1000011, PLACE = -1000012, KIND = -1000013, SIZE = -1000014, STORE = -1000015;
    private static final int LOW = Integer.MIN_VALUE, HIGH = Integer.MAX_VALUE;
    private static final String FIVE = "a4;p7,16,1;r2,10,1;b9,8,1;t3,16,2;d1,0,2;z0,3;z9,1;z5,9;z4,5;";

    private static int wrong = 0;
    private static int looked = 0;

    private static void due(int promise, String what, int got, int want) {
        looked++;
        if (got != want) {
            wrong++;
            System.out.println("promise " + promise + ": " + what + " answered " + got + ", due is " + want);
        }
    }

    private static void feed(ChairPast x, String text) {
        for (int i = 0; i < text.length(); i++) {
            x.feed(text.charAt(i));
        }
    }

    private static ChairPast with(String text) {
        ChairPast x = new ChairPast();
        feed(x, text);
        int chairs = x.room();
        if (chairs < 1) {
            wrong++;
            System.out.println("not a room: " + text + " answered " + chairs);
        }
        return x;
    }

    private static void newObject() {
        ChairPast x = new ChairPast();
        for (int what = 0; what <= 7; what++) {
            due(1, "count(" + what + ") of a new one", x.count(what), 0);
        }
        due(1, "status()", x.status(), 0);
        due(1, "fault()", x.fault(), 0);
        due(1, "peace()", x.peace(), STATE);
        due(1, "kind(0)", x.kind(0), BAD);
        due(1, "trace(0)", x.trace(0), NONE);
        for (int row = 0; row < 8; row++) {
            due(1, "drop(" + row + ")", x.drop(row), NULL);
        }
    }

    private static void rows() {
        ChairPast x = new ChairPast();
        due(2, "40 items", x.row(7, 2, 40), 40);
        due(2, "0 items", x.row(0, 0, 0), 0);
        due(2, "count(0)", x.count(0), 2);
        due(2, "row 8", x.row(8, 0, 1), BAD);
        due(2, "row -1", x.row(-1, 0, 1), BAD);
        due(2, "lane 3", x.row(0, 3, 1), BAD);
        due(2, "lane -1", x.row(0, -1, 1), BAD);
        due(2, "41 items", x.row(0, 0, 41), BAD);
        due(2, "-1 items of no lane", x.row(0, 3, -1), BAD);
        due(2, "-1 items", x.row(7, 0, -1), SIZE);
        due(2, "least items", x.row(7, 0, LOW), SIZE);
        due(2, "row 7 is as it was", x.set(7, 39, 70000), 70000);
        due(2, "anew", x.row(7, 1, 2), 2);
        due(2, "the old items are gone", x.set(7, 2, 1), PLACE);
        due(2, "one row still", x.count(0), 2);

        due(3, "byte 127", x.row(1, 0, 2) + x.set(1, 0, 127), 129);
        due(3, "byte 128", x.set(1, 0, 128), -128);
        due(3, "byte -129", x.set(1, 0, -129), 127);
        due(3, "byte 256", x.set(1, 1, 256), 0);
        due(3, "short 32768", x.row(2, 1, 1) + x.set(2, 0, 32768), 1 - 32768);
        due(3, "short 65536", x.set(2, 0, 65536), 0);
        due(3, "int", x.row(3, 2, 1) + x.set(3, 0, LOW), LOW + 1);
        due(3, "row 8", x.set(8, 0, 0), BAD);
        due(3, "missing", x.set(5, 0, 0), NULL);
        due(3, "place -1", x.set(3, -1, 0), PLACE);
        due(3, "place behind the end", x.set(3, 1, 0), PLACE);
        due(3, "place far", x.set(3, HIGH, 0), PLACE);
        due(3, "no place in an empty row", x.set(0, 0, 0), PLACE);
    }

    /** What a row holds is seen by fits() of a throne for one guest: its bearing is its manner. */
    private static int itemOf(ChairPast x, int row, int i) {
        int bits = x.fits(0, row, i, 0);
        for (int v = 0; v < 10; v++) {
            if (bits == 1 << v) {
                return v;
            }
        }
        return -1;
    }

    private static void copies() {
        ChairPast x = with("a0;t5,16,0;z1,1;");
        x.row(0, 0, 5);
        for (int i = 0; i < 5; i++) {
            due(2, "0 at first", itemOf(x, 0, i), 0);
            x.set(0, i, i + 1);
        }
        x.row(1, 0, 5);
        x.set(1, 3, 9);
        x.row(1, 0, 5);
        due(2, "0 anew", itemOf(x, 1, 3), 0);
        due(4, "forward over itself", x.copy(0, 0, 0, 1, 4), 4);
        int[] want = {1, 1, 2, 3, 4};
        for (int i = 0; i < 5; i++) {
            due(4, "item " + i, itemOf(x, 0, i), want[i]);
        }
        due(4, "back over itself", x.copy(0, 2, 0, 0, 3), 3);
        int[] then = {2, 3, 4, 3, 4};
        for (int i = 0; i < 5; i++) {
            due(4, "item " + i + " then", itemOf(x, 0, i), then[i]);
        }
        x.row(1, 0, 2);
        due(4, "to another", x.copy(0, 3, 1, 0, 2), 2);
        due(4, "item of the other", itemOf(x, 1, 1), 4);
        due(4, "none at both ends", x.copy(0, 5, 1, 2, 0), 0);
        due(4, "none beyond an end", x.copy(0, 6, 1, 0, 0), PLACE);
        due(4, "none beyond the other end", x.copy(0, 0, 1, 3, 0), PLACE);
        due(4, "i -1", x.copy(0, -1, 1, 0, 1), PLACE);
        due(4, "j -1", x.copy(0, 0, 1, -1, 1), PLACE);
        due(4, "n -1", x.copy(0, 1, 1, 1, -1), PLACE);
        due(4, "runs over", x.copy(0, HIGH, 1, 0, HIGH), PLACE);
        due(4, "runs over in b", x.copy(0, 0, 1, HIGH, 1), PLACE);
        due(4, "three to two", x.copy(0, 0, 1, 0, 3), PLACE);
        due(4, "three of two", x.copy(1, 0, 0, 0, 3), PLACE);
        due(4, "what is found changes nothing", itemOf(x, 1, 0), 3);
        x.row(2, 1, 1);
        due(4, "STORE is ahead of PLACE", x.copy(0, -1, 2, 0, 1), STORE);
        due(4, "NULL is ahead", x.copy(3, -1, 2, 0, 1), NULL);
        due(4, "NULL of b", x.copy(2, -1, 3, 0, 1), NULL);
        due(4, "row 8", x.copy(8, 0, 3, 0, 1), BAD);
        due(4, "row -1", x.copy(3, 0, -1, 0, 1), BAD);

        due(5, "drop", x.drop(0), 5);
        due(5, "again", x.drop(0), NULL);
        due(5, "set of it", x.set(0, 0, 0), NULL);
        due(5, "empty row", x.row(0, 0, 0) + x.drop(0), 0);
        due(5, "row 8", x.drop(8), BAD);
        due(5, "row -1", x.drop(-1), BAD);
    }

    private static void tape() {
        ChairPast x = new ChairPast();
        due(6, "byte -1", x.feed(-1), BAD);
        due(6, "byte 256", x.feed(256), BAD);
        due(6, "byte 0", x.feed(0), 1);
        due(6, "byte 255", x.feed(255), 2);
        for (int i = 3; i <= 100; i++) {
            due(6, "byte " + i, x.feed('a'), i);
        }
        due(6, "one more", x.feed('a'), FULL);
        due(6, "BAD is ahead of FULL", x.feed(256), BAD);
        due(6, "count(7)", x.count(7), 100);
        due(7, "read", x.room(), -1000100);
        due(7, "the tape is empty then", x.count(7), 0);
        due(6, "anew", x.feed('a'), 1);
    }

    private static void fault(String text, int at, int number) {
        ChairPast x = with(FIVE);
        x.sit(0, 0);
        feed(x, text);
        due(7, text, x.room(), -1000100 - at);
        due(8, "fault() of " + text, x.fault(), number);
        due(7, "all stays", x.count(1) * 1000 + x.count(3) * 100 + x.count(6) * 10 + x.count(7), 5110);
    }

    private static void faults() {
        fault("", 0, 1);
        fault("a", 1, 1);
        fault("p1,1,1;", 0, 1);
        fault("A1;p1,1,1;", 0, 1);
        fault("a1;", 3, 1);
        fault("a1;z1,1;", 3, 1);
        fault("a10;p1,1,1;", 1, 2);
        fault("a100;p1,1,1;", 1, 1);
        fault("a1234", 1, 1);
        fault("a1,p1,1,1;", 2, 1);
        fault("a 1;p1,1,1;", 1, 1);
        fault("a1;p10,1,1;", 4, 2);
        fault("a1;p1,17,1;", 6, 2);
        fault("a1;p1,100,1;", 6, 1);
        fault("a1;p1,1,4;", 8, 2);
        fault("a1;p,1,1;", 4, 1);
        fault("a1;p1;1,1;", 5, 1);
        fault("a1;p1,1;", 7, 1);
        fault("a1;p1,1,1", 9, 1);
        fault("a1;p1,1,1,", 9, 1);
        fault("a1;p1,1,1;1", 10, 1);
        fault("a1;p1,1,1;;", 10, 1);
        fault("a1;p1,1,1;a", 10, 1);
        fault("a1;p1,1,1;z", 11, 1);
        fault("a1;p1,1,1;z10,1;", 11, 2);
        fault("a1;p1,1,1;z1,0;", 13, 2);
        fault("a1;p1,1,1;z1,10;", 13, 2);
        fault("a1;p1,1,1;z1,00;", 13, 2);
        fault("a1;p1,1,1;z1;", 12, 1);
        fault("a1;p1,1,1;z1,1;p1,1,1;", 15, 1);
        fault("a1;p1,1,1;z1,1;\u00e9", 15, 1);
        String five = "a1;p1,1,1;p1,1,1;p1,1,1;p1,1,1;p1,1,1;";
        fault(five + "d", 38, 3);
        fault(five + "x", 38, 1);
        String full = five + "z1,1;z1,1;z1,1;z1,1;z1,1;";
        fault(full + "z1,1;", 63, 3);
        fault(full + "p", 63, 1);
        // of several FAULTS the first
        fault("a1;p10,17,100;x", 4, 2);

        ChairPast x = new ChairPast();
        feed(x, "a10;");
        x.room();
        feed(x, full);
        due(7, "all that there is room for", x.room(), 5);
        due(8, "the latest stays behind a room that is read", x.fault(), 2);
        due(7, "no guests", with("a1;p1,1,1;").count(2), 0);
        ChairPast y = with("a07;p09,06,03;z08,09;");
        due(7, "two figures, the first 0", y.count(5) * 1000 + y.chair(0, 0) * 100 + y.chair(0, 1) * 10 + y.chair(0, 2),
                7963);
        due(7, "so of a guest", y.guest(0, 0) * 10 + y.guest(0, 1), 89);
        x.sit(0, 0);
        x.sit(1, 1);
        feed(x, FIVE);
        due(7, "a room in place of the one before", x.room(), 5);
        due(7, "nobody sits", x.count(3) + x.count(4), 0);
        due(7, "no act can be undone", x.undo(), STATE);
        due(7, "SAT", x.chair(0, 3), 0);
        due(7, "guests", x.count(2), 4);
    }

    private static void acts() {
        ChairPast x = with(FIVE);
        due(9, "guest 4", x.sit(4, 0), BAD);
        due(9, "guest -1", x.sit(-1, 0), BAD);
        due(9, "chair 5", x.sit(0, 5), BAD);
        due(9, "chair -1", x.sit(0, LOW), BAD);
        due(9, "on a plain one", x.sit(0, 0), 7);
        due(9, "it fades", x.chair(0, 1), 12);
        due(9, "SAT", x.chair(0, 3), 1);
        due(9, "he sits", x.sit(0, 1), STATE);
        due(9, "somebody sits there", x.sit(1, 0), STATE);
        due(9, "both", x.sit(0, 0), STATE);
        due(9, "BAD is ahead of STATE", x.sit(0, 5), BAD);
        due(9, "on one that rocks", x.sit(1, 1), 4);
        due(9, "on a barber's", x.sit(2, 2), 2);
        due(9, "that takes after him", x.chair(2, 0) * 100 + x.chair(2, 1), 516);
        due(14, "who sits there", x.chair(1, 4), 1);
        due(15, "where", x.guest(2, 2), 2);
        due(15, "his bearing", x.guest(1, 3), 4);
        due(16, "7 and 8, less strife 4", x.peace(), 11);
        due(33, "who sit", x.count(3), 7);
        due(33, "chairs taken", x.count(4), 7);
        due(12, "move", x.move(2), 7);
        due(12, "he comes along", x.guest(2, 2), 3);
        due(12, "so does the kind", x.kind(2) * 10 + x.kind(3), 43);
        due(12, "nobody on the other", x.chair(2, 4), NONE);
        due(12, "the set comes along", x.chair(2, 2) * 10 + x.chair(3, 2), 21);
        due(33, "chairs taken then", x.count(4), 11);
        due(12, "the last one", x.move(4), BAD);
        due(12, "none", x.move(-1), BAD);
        due(12, "far", x.move(HIGH), BAD);
        due(13, "undo", x.undo(), 3);
        due(13, "as before", x.peace() * 10 + x.guest(2, 2), 112);
        due(11, "recane", x.recane(0), 12);
        due(11, "then", x.chair(0, 1), 0);
        due(11, "his bearing stays", x.guest(0, 3), 7);
        due(11, "once more", x.recane(0), 0);
        due(11, "chair 5", x.recane(5), BAD);
        due(10, "rise", x.rise(1), 1);
        due(10, "again", x.rise(1), STATE);
        due(10, "guest 4", x.rise(4), BAD);
        due(10, "no bearing", x.guest(1, 3), NONE);
        due(10, "no chair", x.guest(1, 2), NONE);
        due(10, "the chair stays as it is", x.chair(1, 1) * 10 + x.chair(1, 3), 71);
        due(9, "one that rocks, the second time", x.sit(1, 1), 9);
        due(33, "acts", x.count(6), 7);
        due(13, "the sitting is undone", x.undo(), 6);
        due(13, "SAT, too", x.chair(1, 3) * 100 + x.chair(1, 1), 107);
        due(13, "the rising is undone", x.undo() * 10 + x.guest(1, 3), 54);
        due(13, "where he sits again", x.guest(1, 2) * 10 + x.chair(1, 4), 11);
        due(13, "the recaning is undone", x.undo() + x.chair(0, 1), 4);
        due(13, "the first one, too", x.undo() + x.chair(0, 1), 15);
        due(13, "the barber's is as told", x.undo() * 1000 + x.chair(2, 0) * 100 + x.chair(2, 1), 2908);
        due(13, "all", x.undo() + x.undo(), 1);
        due(13, "none is left", x.undo(), STATE);
        due(13, "nobody sits", x.count(3), 0);
    }

    private static void manyActs() {
        ChairPast x = with("a0;p1,16,0;t2,5,0;z3,1;");
        due(11, "the oldest", x.recane(0), 16);
        for (int i = 0; i < 24; i++) {
            x.move(0);
            due(13, "24 at most", x.count(6), Math.min(i + 2, 24));
        }
        for (int i = 23; i >= 0; i--) {
            due(13, "undo", x.undo(), i);
            due(13, "where they are", x.kind(0), i % 2 == 0 ? 1 : 4);
        }
        due(13, "the oldest is forgotten", x.undo(), STATE);
        due(13, "and stays", x.chair(0, 1), 0);
        due(9, "a refused act is none", x.sit(0, 9) + x.count(6), BAD);
    }

    private static void looks() {
        ChairPast x = with(FIVE);
        int[] chair = {9, 8, 1, 0, NONE};
        for (int what = 0; what < 5; what++) {
            due(14, "chair(2, " + what + ")", x.chair(2, what), chair[what]);
        }
        due(14, "what 5", x.chair(0, 5), BAD);
        due(14, "what -1", x.chair(0, -1), BAD);
        due(14, "chair 5", x.chair(5, 0), BAD);
        due(14, "chair -1", x.chair(-1, 0), BAD);
        int[] guest = {5, 9, NONE, NONE};
        for (int what = 0; what < 4; what++) {
            due(15, "guest(2, " + what + ")", x.guest(2, what), guest[what]);
        }
        due(15, "what 4", x.guest(0, 4), BAD);
        due(15, "what -1", x.guest(0, -1), BAD);
        due(15, "guest 4", x.guest(4, 0), BAD);
        due(15, "guest -1", x.guest(-1, 0), BAD);
        due(16, "nobody", x.peace(), 0);
        x.sit(0, 0);
        x.sit(1, 2);
        due(16, "not beside one another", x.peace(), 0);
        ChairPast y = with("a9;t0,16,1;t9,16,1;t0,16,1;t9,16,1;z0,1;z0,1;z0,1;z0,1;");
        for (int i = 0; i < 4; i++) {
            y.sit(i, i);
        }
        due(16, "below none: 1, 1, 1 less 9 less 9", y.peace(), -15);
    }

    private static void fading() {
        // a quarter less, what is left over a whole: 16 12 9 6 4 3 2 1 0, and will 1 takes it then
        ChairPast x = with("a0;p9,16,0;z0,1;z3,9;");
        int[] strength = {12, 9, 6, 4, 3, 2, 1, 16};
        int[] bearing = {9, 6, 5, 3, 2, 1, 1, 0};
        for (int i = 0; i < 8; i++) {
            due(9, "bearing " + i, x.sit(0, 0), bearing[i]);
            due(9, "strength " + i, x.chair(0, 1), strength[i]);
            x.rise(0);
        }
        due(9, "it takes after him", x.chair(0, 0), 0);
        due(9, "SAT", x.chair(0, 3), 8);
        due(9, "a will of 9 leaves 12", x.sit(1, 0) * 100 + x.chair(0, 1), 12);
        x.rise(1);
        due(9, "9 is not below 9", x.sit(1, 0) * 1000 + x.chair(0, 0) * 100 + x.chair(0, 1), 9);
        x.rise(1);
        due(9, "6 is", x.sit(1, 0) * 1000 + x.chair(0, 0) * 100 + x.chair(0, 1), 1316);
        ChairPast b = with("a0;b9,16,0;z5,1;");
        due(9, "a barber's: 0 for 10", b.sit(0, 0) * 100 + b.chair(0, 0) * 20 + b.chair(0, 1), 12);
        ChairPast t = with("a0;t9,1,0;d3,16,0;d7,16,0;d9,0,0;z2,1;z8,9;");
        due(9, "a throne of 1", t.sit(0, 0) * 100 + t.chair(0, 1), 901);
        due(9, "it stays, but will 9 takes it", t.rise(0) + t.sit(1, 0) * 1000 + t.chair(0, 0) * 100 + t.chair(0, 1),
                9816);
        due(9, "a dentist's, 5 at least", t.sit(0, 1), 5);
        due(17, "7 on the next", t.would(0, 2, 0), 7);
        due(17, "OWN, but 5 at least", t.would(0, 3, 0), 5);
        due(17, "OWN 8", t.would(1, 3, 0), 8);
    }

    private static void would() {
        ChairPast x = with(FIVE);
        x.sit(0, 0);
        due(17, "whoever sits there", x.would(0, 0, 0), 5);
        due(17, "MANNER", x.would(1, 0, 1), 7);
        due(17, "STRENGTH", x.would(1, 0, 2), 9);
        due(17, "a barber's MANNER", x.would(0, 2, 1), 0);
        due(17, "nothing changes", x.chair(0, 1) * 10 + x.chair(0, 3), 121);
        x.sit(1, 1);
        due(17, "on one that rocks, with a SAT of 1", x.would(3, 1, 0), 4);
        due(17, "guest 4", x.would(4, 0, 0), BAD);
        due(17, "chair 5", x.would(0, 5, 0), BAD);
        due(17, "what 3", x.would(0, 0, 3), BAD);
        due(17, "what -1", x.would(0, 0, -1), BAD);
    }

    private static void seating() {
        ChairPast x = with(FIVE);
        due(18, "how much", x.seating(-1), 27);
        due(18, "k 5", x.seating(5), BAD);
        due(18, "k -2", x.seating(-2), BAD);
        due(18, "no guest 4", x.seating(4), NONE);
        x.sit(0, 0);
        due(18, "of one who sits, his", x.seating(0), 0);
        due(18, "nothing changes", x.count(3), 1);
        due(18, "STATE is ahead", new ChairPast().seating(9), STATE);
        ChairPast few = with("a0;t1,16,0;z1,1;z2,1;");
        due(18, "not enough chairs", few.seating(-1), NONE);
        due(18, "for any", few.seating(0), NONE);
        few.sit(0, 0);
        due(18, "for who stands", few.seating(-1), NONE);
        due(18, "nor of who sits", few.seating(0), NONE);
        due(18, "no guests", with("a0;t1,16,0;").seating(-1), 0);
        ChairPast same = with("a0;t1,16,0;t1,16,0;t1,16,0;z1,1;z2,1;");
        due(18, "of several the first", same.seating(0) * 10 + same.seating(1), 1);
        due(18, "how much of it", same.seating(-1), 10);
        ChairPast torn = with("a9;t0,16,1;t9,16,1;t0,16,1;z1,1;z2,1;z3,1;");
        due(18, "1 and 1 less 9", torn.seating(-1), -7);
        ChairPast beside = with("a0;t1,16,0;t5,16,0;t4,16,0;z0,1;z0,1;");
        beside.sit(0, 0);
        due(18, "beside the one who sits", beside.seating(-1) * 100 + beside.seating(0) * 10 + beside.seating(1), 601);
        ChairPast last = with("a0;t1,16,0;t5,16,0;t6,16,0;z0,1;z0,1;");
        due(18, "the best two", last.seating(-1) * 100 + last.seating(0) * 10 + last.seating(1), 912);
        ChairPast all = with("a0;t0,16,1;t9,16,1;z1,1;z2,1;");
        all.sit(0, 1);
        all.sit(1, 0);
        due(18, "all sit: peace", all.seating(-1) * 100 + all.seating(0) * 10 + all.seating(1), 110);
    }

    private static void warmAndPure() {
        ChairPast x = with(FIVE);
        due(19, "none is needed", x.warm(0, 0, 7, -1), 0);
        due(19, "so there is no first", x.warm(0, 0, 7, 0), NONE);
        due(19, "three", x.warm(0, 0, 2, -1), 3);
        due(19, "0, 0, 0 is the first row", x.warm(0, 0, 2, 0) + x.warm(0, 0, 2, 1) + x.warm(0, 0, 2, 2), 0);
        due(19, "two", x.warm(0, 0, 3, -1), 2);
        due(19, "no third", x.warm(0, 0, 3, 2), NONE);
        due(19, "never", x.warm(0, 0, 9, -1), NONE);
        due(19, "so none", x.warm(0, 0, 9, 1), NONE);
        due(19, "0 is a bearing", x.warm(0, 2, 0, -1), 0);
        due(19, "9 is one, too", x.warm(1, 4, 9, -1), 0);
        due(19, "bearing 10", x.warm(0, 0, 10, -1), BAD);
        due(19, "bearing -1", x.warm(0, 0, -1, -1), BAD);
        due(19, "k 3", x.warm(0, 0, 7, 3), BAD);
        due(19, "k -2", x.warm(0, 0, 7, -2), BAD);
        due(19, "guest 4", x.warm(4, 0, 0, -1), BAD);
        due(19, "chair 5", x.warm(0, 5, 0, -1), BAD);
        // who of them can make a throne of strength 3 his own: only guest 1, whose will is 4
        ChairPast t = with("a0;t9,3,0;z1,3;z2,4;");
        due(19, "by guest 1", t.warm(0, 0, 2, -1) * 10 + t.warm(0, 0, 2, 0), 11);
        due(19, "guest 0 can't", t.warm(1, 0, 1, -1), NONE);
        t.sit(1, 0);
        due(19, "whoever sits there", t.warm(0, 0, 2, -1), 0);

        due(20, "6", x.pure(0, 0), 6);
        due(20, "8", x.pure(1, 0), 8);
        due(20, "at once", x.pure(0, 2), 0);
        due(20, "never", x.pure(1, 3), NONE);
        due(20, "guest 4", x.pure(4, 0), BAD);
        due(20, "chair 5", x.pure(0, 5), BAD);
        due(20, "chair -1", x.pure(0, -1), BAD);
        // it takes after him each third time, but its MANNER is 1 more when he sits down
        due(20, "a barber's", with("a0;b5,16,0;z5,9;").pure(0, 0), NONE);
    }

    private static void betweens() {
        ChairPast x = with(FIVE);
        due(21, "all of them", x.between(0, 7, 12, 0), 15);
        due(21, "all but the will of 9", x.between(1, 2, 7, 0), 11);
        due(21, "he", x.between(1, 5, 16, 0), 4);
        due(21, "pairs: 9 of 12, nobody takes it", x.between(0, 7, 9, 1), 16);
        due(21, "pairs: any other, then he (he twice: 12)", x.between(1, 5, 16, 1), 3);
        due(21, "manner 0, 9, strength 0 may be told", x.between(0, 0, 16, 0) + x.between(0, 9, 0, 0), 0);
        due(21, "manner 9 of guest 1", x.between(4, 9, 16, 0), 2);
        due(21, "manner 10", x.between(0, 10, 0, 0), BAD);
        due(21, "manner -1", x.between(0, -1, 0, 0), BAD);
        due(21, "strength 17", x.between(0, 0, 17, 0), BAD);
        due(21, "strength -1", x.between(0, 0, -1, 0), BAD);
        due(21, "what 2", x.between(0, 0, 0, 2), BAD);
        due(21, "what -1", x.between(0, 0, 0, -1), BAD);
        due(21, "chair 5", x.between(5, 0, 0, 0), BAD);
        due(21, "no guests", with("a0;t1,16,0;").between(0, 1, 16, 0), 0);

        due(22, "one", x.trios(0), 1);
        due(22, "the first", x.trios(1), 0);
        due(22, "what 2", x.trios(2), BAD);
        due(22, "what -1", x.trios(-1), BAD);
        due(22, "STATE is ahead", new ChairPast().trios(2), STATE);
        ChairPast y = with("a0;p1,1,2;p1,1,3;p1,1,3;p1,1,3;p1,1,3;");
        due(22, "two, from 1 on", y.trios(0) * 10 + y.trios(1), 21);
        due(22, "another one in the middle", with("a0;p1,1,2;p1,1,3;p1,1,2;").trios(0), 0);
        due(22, "another one at the end", with("a0;p1,1,2;p1,1,2;p1,1,3;").trios(1), NONE);
        due(22, "two chairs", with("a0;p1,1,2;p1,1,2;").trios(1), NONE);
        due(22, "two chairs: none", with("a0;p1,1,2;p1,1,2;").trios(0), 0);
    }

    private static void rowsOfBearings() {
        ChairPast x = with("a0;p8,8,0;t9,0,0;z3,1;z6,9;");
        // OWN 3: (64 + 24) / 16 = 5, and 3
        x.row(0, 0, 3);
        x.set(0, 1, 5);
        x.set(0, 2, 3);
        due(23, "OWN 3", x.owns(0, 0, 1), 8);
        due(23, "whichever guest", x.owns(1, 0, 1), 8);
        due(23, "none", x.owns(0, 0, 0), 0);
        due(23, "beyond the end", x.owns(0, 0, 2), PLACE);
        due(34, "status", x.status(), 2);
        due(23, "-1", x.owns(0, 0, -1), PLACE);
        due(23, "far", x.owns(0, 0, HIGH), PLACE);
        due(23, "missing", x.owns(0, 1, 0), NULL);
        due(23, "guest 2", x.owns(2, 1, 0), BAD);
        due(23, "row 8", x.owns(0, 8, 0), BAD);
        ChairPast many = with("a0;t4,1,0;p4,16,0;z3,1;");
        many.row(0, 2, 2);
        many.set(0, 0, 4);
        many.set(0, 1, 4);
        due(23, "all of them", many.owns(0, 0, 0), 1023);

        // guest 0: (8*8 + 3*8) / 16 = 5, then STRENGTH 6; guest 1: (8*6 + 6*10) / 16 = 6
        x.row(2, 1, 3);
        x.set(2, 1, 5);
        x.set(2, 2, 6);
        due(24, "manners 7, 8: (56+24)/16 = 5, (42+60)/16 = 6", x.fits(0, 2, 1, 0), 1 << 7 | 1 << 8);
        due(24, "strengths 7, 8, 9", x.fits(0, 2, 1, 1), 1 << 7 | 1 << 8 | 1 << 9);
        due(24, "kinds: plain; a rocker gives OWN then, 6, too", x.fits(0, 2, 1, 2), 1 << 1 | 1 << 2);
        due(24, "none", x.fits(0, 2, 0, 0), 0);
        due(24, "beyond the end", x.fits(0, 2, 2, 0), PLACE);
        due(24, "-1", x.fits(0, 2, -1, 0), PLACE);
        due(24, "far", x.fits(0, 2, HIGH, 0), PLACE);
        due(24, "missing", x.fits(0, 3, -1, 0), NULL);
        due(34, "status", x.status(), 1);
        due(24, "chair 2", x.fits(2, 3, 0, 0), BAD);
        due(24, "row 8", x.fits(0, 8, 0, 0), BAD);
        due(24, "what 3", x.fits(0, 2, 1, 3), BAD);
        due(24, "what -1", x.fits(0, 2, 1, -1), BAD);
        due(34, "BAD leaves it", x.status(), 1);
        due(24, "once more", x.fits(1, 2, 1, 0) + x.status(), 0);
        ChairPast lone = with("a0;p1,1,1;");
        lone.row(0, 0, 0);
        due(24, "no guests: all manners", lone.fits(0, 0, 0, 0), 1023);
        due(24, "all strengths", lone.fits(0, 0, 0, 1), 131071);
        due(24, "all kinds", lone.fits(0, 0, 0, 2), 62);
        due(24, "no such place", lone.fits(0, 0, 1, 2), PLACE);
    }

    private static void chances() {
        // peace is 10 less how much they differ: 5 unless just one is recaned, or both are
        ChairPast x = with("a0;t4,16,0;t9,16,0;z4,1;z5,1;");
        due(25, "4 and 9: 5; recaned second: 4 and 5: 9", x.caned(6, 3, 0), 3);
        due(25, "by", x.caned(6, 3, 1), 10);
        due(25, "sure above", x.caned(5, 3, 0), 1);
        due(25, "sure below", x.caned(5, 3, 1), 1);
        due(25, "never above", x.caned(10, 3, 0), 0);
        due(25, "never below", x.caned(10, 3, 1), 1);
        due(25, "none is recaned", x.caned(6, 0, 0), 0);
        due(25, "all are", x.caned(9, 10, 0) + x.caned(9, 10, 1), 2);
        due(25, "lowest terms", x.caned(9, 5, 0) * 100 + x.caned(9, 5, 1), 102);
        due(25, "nothing changes", x.count(3) + x.chair(0, 3), 0);
        due(25, "q 41", x.caned(41, 0, 0), BAD);
        due(25, "q -1", x.caned(-1, 0, 0), BAD);
        due(25, "c 11", x.caned(0, 11, 0), BAD);
        due(25, "c -1", x.caned(0, -1, 0), BAD);
        due(25, "what 2", x.caned(0, 0, 2), BAD);
        due(25, "STATE is ahead", new ChairPast().caned(41, 0, 0), STATE);
        x.sit(0, 0);
        due(25, "his bearing stays 4", x.caned(9, 3, 0) * 100 + x.caned(9, 3, 1), 310);
        ChairPast few = with("a0;t4,16,0;z4,1;z5,1;");
        due(25, "who finds none stands", few.caned(0, 5, 0), 1);
        ChairPast third = with("a0;p4,16,0;t9,16,0;z4,1;z5,1;z9,1;");
        due(25, "a third one changes nothing", third.caned(6, 0, 0) * 10 + third.caned(5, 0, 0), 1);
        ChairPast five = with("a0;t0,16,0;t0,16,0;t0,16,0;t0,16,0;t0,16,0;z9,1;z9,1;z9,1;z9,1;z9,1;");
        // 40: none or all: 0.9^5 + 0.1^5 = 0.5905
        due(25, "none or all", five.caned(40, 1, 0), 1181);
        due(25, "none or all, by", five.caned(40, 1, 1), 2000);

        ChairPast e = with("a0;t4,16,0;t9,16,0;z1,1;z2,1;");
        due(26, "none", e.drawn(0, 1, 0), 0);
        due(26, "manners of none", e.drawn(0, 1, 1), 13);
        due(26, "16807 is odd: chair 1", e.drawn(1, 1, 0), 9);
        // then 282475249, 1622650073, both odd
        due(26, "three", e.drawn(3, 1, 0), 27);
        ChairPast p = with("a0;p8,16,0;z2,9;z4,1;z0,9;");
        // 16807 leaves 1 by 3: guest 1: 8, STRENGTH 12; 282475249 leaves 1: (96+16)/16 = 7, STRENGTH 9
        due(26, "two", p.drawn(2, 1, 0), 15);
        due(26, "nothing changes", p.chair(0, 3) + p.chair(0, 1), 16);
        due(26, "seed 0", e.drawn(1, 0, 0), BAD);
        due(26, "seed 1000000", e.drawn(1, 1000000, 0), BAD);
        due(26, "n 61", e.drawn(61, 1, 0), BAD);
        due(26, "n -1", e.drawn(-1, 1, 0), BAD);
        due(26, "what 2", e.drawn(1, 1, 2), BAD);
        due(26, "STATE is ahead", new ChairPast().drawn(61, 1, 0), STATE);
        due(26, "nobody", with("a0;t4,16,0;").drawn(60, 999999, 0), 0);
        due(26, "nobody: manners", with("a0;t4,16,0;").drawn(60, 999999, 1), 4);
    }

    private static void images() {
        ChairPast x = with(FIVE);
        due(28, "none was kept", x.restore(0), STATE);
        x.sit(0, 0);
        x.sit(1, 1);
        x.move(0);
        due(27, "image", x.image(1), 1);
        due(27, "acts stay", x.count(6), 3);
        due(27, "k 2", x.image(2), BAD);
        due(27, "k -1", x.image(-1), BAD);
        due(27, "BAD is ahead", new ChairPast().image(2), BAD);
        due(27, "no room", new ChairPast().image(0), STATE);
        due(28, "the other one", x.restore(0), STATE);
        int peace = x.peace();
        x.rise(0);
        x.recane(0);
        feed(x, "a1;t1,1,1;");
        x.room();
        x.recane(0);
        due(28, "restore", x.restore(1), 1);
        due(28, "no act can be undone", x.count(6), 0);
        due(28, "undo", x.undo(), STATE);
        due(28, "peace", x.peace(), peace);
        due(28, "who sits where", x.guest(0, 2) * 10 + x.guest(1, 2), 10);
        due(28, "bearings", x.guest(0, 3) * 10 + x.guest(1, 3), 74);
        due(28, "chairs", x.chair(0, 1) * 100 + x.chair(1, 1) + x.kind(0) * 10000, 20712);
        due(28, "strife", x.count(5), 4);
        x.rise(0);
        due(28, "again", x.restore(1) + x.count(3), 4);
        due(28, "k 2", x.restore(2), BAD);
        due(28, "k -1", x.restore(-1), BAD);
    }

    private static void ask(ChairPast x, int chair, int what, int answer, int... bodies) {
        due(31, "ask(" + chair + ", " + what + ")", x.ask(chair, what), answer);
        for (int i = 0; i < bodies.length; i++) {
            due(32, "trace(" + i + ")", x.trace(i), bodies[i]);
        }
        due(32, "no more", x.trace(bodies.length), NONE);
    }

    private static void asked() {
        ChairPast x = with(FIVE);
        int[][] is = {{1, 1, 0, 0, 0, 0}, {1, 1, 1, 0, 0, 0}, {1, 1, 0, 1, 0, 0}, {1, 0, 0, 0, 1, 0}, {1, 0, 0, 0, 1, 1}};
        for (int chair = 0; chair < 5; chair++) {
            due(29, "kind(" + chair + ")", x.kind(chair), chair + 1);
            for (int kind = 0; kind <= 5; kind++) {
                boolean yes = is[chair][kind] == 1;
                due(30, "as(" + chair + ", " + kind + ")", x.as(chair, kind), yes ? chair : KIND);
                due(34, "status()", x.status(), yes ? 0 : 3);
            }
        }
        due(29, "chair 5", x.kind(5), BAD);
        due(29, "chair -1", x.kind(-1), BAD);
        due(30, "chair 5", x.as(5, 0), BAD);
        due(30, "kind 6", x.as(0, 6), BAD);
        due(30, "kind -1", x.as(0, -1), BAD);
        ask(x, 0, 0, 24, 11, 10, 21, 20);
        ask(x, 0, 1, 23, 21, 20);
        ask(x, 1, 0, -25, 12, 11, 10, 24, 21, 20);
        ask(x, 1, 1, 24, 24, 21, 20);
        ask(x, 2, 0, 1 - 983, 11, 10, 22, 21, 20);
        ask(x, 2, 1, -983, 22, 21, 20);
        ask(x, 3, 0, -98, 13, 10);
        ask(x, 3, 1, 101, 23, 20, 13, 10);
        ask(x, 4, 0, -196, 14, 13, 10);
        ask(x, 4, 1, 197, 23, 20, 14, 13, 10);
        due(31, "chair 5", x.ask(5, 0), BAD);
        due(31, "what 2", x.ask(0, 2), BAD);
        due(31, "what -1", x.ask(0, -1), BAD);
        due(32, "what is refused leaves the trace", x.trace(4), 10);
        due(32, "-1", x.trace(-1), NONE);
        due(32, "far", x.trace(HIGH), NONE);
        due(32, "least", x.trace(LOW), NONE);
    }

    private static void counts() {
        ChairPast x = with(FIVE);
        x.row(0, 0, 0);
        x.row(7, 0, 3);
        x.sit(3, 4);
        x.sit(1, 2);
        x.feed(1);
        int[] want = {2, 5, 4, 10, 20, 4, 2, 1};
        for (int what = 0; what < 8; what++) {
            due(33, "count(" + what + ")", x.count(what), want[what]);
        }
        due(33, "8", x.count(8), BAD);
        due(33, "-1", x.count(-1), BAD);

        due(34, "none", x.status(), 0);
        x.row(0, 0, -1);
        due(34, "SIZE", x.status(), 4);
        x.row(9, 0, 1);
        due(34, "BAD leaves it", x.status(), 4);
        x.sit(3, 0);
        x.peace();
        due(34, "calls without a row leave it", x.status(), 4);
        x.set(7, 2, 1);
        due(34, "none then", x.status(), 0);
        x.set(7, 3, 1);
        due(34, "PLACE", x.status(), 2);
        x.as(0, 0);
        due(34, "as() that is so", x.status(), 0);
        x.drop(5);
        due(34, "NULL", x.status(), 1);
        x.drop(7);
        due(34, "drop", x.status(), 0);
        x.row(1, 1, 1);
        x.copy(0, 0, 1, 0, 0);
        due(34, "STORE", x.status(), 5);
        x.copy(0, 0, 0, 0, 0);
        due(34, "copy", x.status(), 0);
        x.as(0, 5);
        x.image(7);
        x.undo();
        due(34, "KIND", x.status(), 3);
        x.row(1, 0, 1);
        due(34, "row", x.status(), 0);
    }

    public static void main(String[] args) {
        newObject();
        rows();
        copies();
        tape();
        faults();
        acts();
        manyActs();
        looks();
        fading();
        would();
        seating();
        warmAndPure();
        betweens();
        rowsOfBearings();
        chances();
        images();
        asked();
        counts();
        System.out.println(looked + " answers looked at, " + wrong + " not as due");
        if (wrong != 0) {
            System.exit(1);
        }
    }
}
