/**
 * Chairs with a past: each chair makes who sits on it bear himself as the one before did, and fades with each.
 *
 * The document numbers its promises; every public method here is one of them. Arguments are looked at in the
 * public methods alone; what is inside may rely on them.
 */
public final class ChairPast {
    public static final int NONE = -1000000, BAD = -1000001, STATE = -1000002, FULL = -1000003;

    private static final int FINDING = -1000010;
    private static final int NULL = 1, PLACE = 2, KIND = 3, SIZE = 4, STORE = 5;
    private static final int FAULT = -1000100;

    private static final int ROWS = 8, LANES = 3, ITEMS = 40, MISSING = -1;
    private static final int TAPE = 100, TRACE = 16, ACTS = 24, IMAGES = 2;
    private static final int CHAIRS = 5, GUESTS = 5, KINDS = 5;
    private static final int MANNERS = 10, WHOLE = 16, MOST_SAT = 999, MOST_SET = 3, MOST_WILL = 9, MOST_STRIFE = 9;
    private static final int CHAIR_NUMBERS = 6, GUEST_NUMBERS = 4, ROOM_NUMBERS = 3;
    private static final int PAGE = ROOM_NUMBERS + CHAIRS * CHAIR_NUMBERS + GUESTS * GUEST_NUMBERS;
    private static final int MOST_SITTINGS = 3, MOST_PURE = 20, MOST_PEACE = 40, TENTHS = 10;
    private static final int MOST_DRAWS = 60, MOST_SEED = 999999;
    private static final long FACTOR = 16807L, MODULUS = 2147483647L;

    private final Line[] rows = new Line[ROWS];
    private final int[] lanes = new int[ROWS];
    private final Line bodies = new Line(TRACE);
    private final Line[] images = new Line[IMAGES];
    private final Line[] acts = new Line[ACTS];
    private final Room now;
    private final Reader reader;
    private final Foresight foresight;
    private int oldestAct;
    private int actsKept;
    private int latestFault;
    private int latestFinding;

    public ChairPast() {
        Kind[] kinds = new Kind[KINDS];
        kinds[0] = new Plain();
        kinds[1] = new Rocker();
        kinds[2] = new Barbers();
        kinds[3] = new Throne();
        kinds[4] = new Dentists();
        Room first = new Room(kinds);
        now = first;
        reader = new Reader(kinds);
        foresight = new Foresight(first, kinds);
        for (int i = 0; i < ROWS; i++) {
            rows[i] = new Line(ITEMS);
            lanes[i] = MISSING;
        }
        for (int i = 0; i < IMAGES; i++) {
            images[i] = new Line(PAGE);
        }
        for (int i = 0; i < ACTS; i++) {
            acts[i] = new Line(PAGE);
        }
    }

    // ---- rows

    public int row(int row, int lane, int n) {
        if (!isRow(row) || !within(lane, 0, LANES - 1) || n > ITEMS) {
            return BAD;
        }
        if (n < 0) {
            return found(SIZE);
        }
        lanes[row] = lane;
        rows[row].clear();
        for (int i = 0; i < n; i++) {
            rows[row].push(0);
        }
        return sound(n);
    }

    public int set(int row, int i, int v) {
        if (!isRow(row)) {
            return BAD;
        }
        if (isMissing(row)) {
            return found(NULL);
        }
        if (!within(i, 0, rows[row].size - 1)) {
            return found(PLACE);
        }
        rows[row].items[i] = narrowed(lanes[row], v);
        return sound(rows[row].items[i]);
    }

    public int copy(int a, int i, int b, int j, int n) {
        if (!isRow(a) || !isRow(b)) {
            return BAD;
        }
        if (isMissing(a) || isMissing(b)) {
            return found(NULL);
        }
        if (lanes[a] != lanes[b]) {
            return found(STORE);
        }
        if (!rows[a].holds(i, n) || !rows[b].holds(j, n)) {
            return found(PLACE);
        }
        System.arraycopy(rows[a].items, i, rows[b].items, j, n);
        return sound(n);
    }

    public int drop(int row) {
        if (!isRow(row)) {
            return BAD;
        }
        if (isMissing(row)) {
            return found(NULL);
        }
        int had = rows[row].size;
        lanes[row] = MISSING;
        rows[row].clear();
        return sound(had);
    }

    // ---- rooms, acts

    public int feed(int letter) {
        if (!within(letter, 0, 255)) {
            return BAD;
        }
        return reader.tape.push(letter) ? reader.tape.size : FULL;
    }

    public int room() {
        if (!reader.readTape()) {
            latestFault = reader.mistake;
            return FAULT - reader.at;
        }
        now.readFrom(reader.draftPage());
        forgetActs();
        return now.chairCount;
    }

    public int fault() {
        return latestFault;
    }

    public int sit(int guest, int chair) {
        if (!now.hasGuest(guest) || !now.hasChair(chair)) {
            return BAD;
        }
        if (now.isSeated(guest) || now.isTaken(chair)) {
            return STATE;
        }
        keepAct();
        now.seatGuest(guest, chair);
        return now.bearing[guest];
    }

    public int rise(int guest) {
        if (!now.hasGuest(guest)) {
            return BAD;
        }
        if (!now.isSeated(guest)) {
            return STATE;
        }
        keepAct();
        int left = now.place[guest];
        now.liftGuest(guest);
        return left;
    }

    public int recane(int chair) {
        if (!now.hasChair(chair)) {
            return BAD;
        }
        keepAct();
        int had = now.chairs[chair].strength;
        now.chairs[chair].strength = 0;
        return had;
    }

    public int move(int chair) {
        if (!within(chair, 0, now.chairCount - 2)) {
            return BAD;
        }
        keepAct();
        now.swapWithNext(chair);
        return now.peaceNow();
    }

    public int undo() {
        if (actsKept == 0) {
            return STATE;
        }
        actsKept--;
        now.readFrom(acts[(oldestAct + actsKept) % ACTS]);
        return actsKept;
    }

    public int chair(int chair, int what) {
        if (!now.hasChair(chair)) {
            return BAD;
        }
        Chair told = now.chairs[chair];
        switch (what) {
            case 0: return told.manner;
            case 1: return told.strength;
            case 2: return told.suite;
            case 3: return told.sat;
            case 4: return told.sitter;
            default: return BAD;
        }
    }

    public int guest(int guest, int what) {
        if (!now.hasGuest(guest)) {
            return BAD;
        }
        switch (what) {
            case 0: return now.own[guest];
            case 1: return now.will[guest];
            case 2: return now.place[guest];
            case 3: return now.bearing[guest];
            default: return BAD;
        }
    }

    public int peace() {
        return now.stands() ? now.peaceNow() : STATE;
    }

    // ---- foretold

    public int would(int guest, int chair, int what) {
        if (!now.hasGuest(guest) || !now.hasChair(chair) || !within(what, 0, 2)) {
            return BAD;
        }
        return foresight.wouldBe(guest, chair, what);
    }

    public int seating(int k) {
        if (!now.stands()) {
            return STATE;
        }
        if (!within(k, -1, GUESTS - 1)) {
            return BAD;
        }
        return foresight.bestSeating(k);
    }

    public int warm(int guest, int chair, int bearing, int k) {
        if (!now.hasGuest(guest) || !now.hasChair(chair) || !within(bearing, 0, MANNERS - 1)
                || !within(k, -1, MOST_SITTINGS - 1)) {
            return BAD;
        }
        int sittings = foresight.fewestSittings(guest, chair, bearing);
        if (k == -1 || sittings == NONE) {
            return sittings;
        }
        return k < sittings ? foresight.sitterOf(k) : NONE;
    }

    public int pure(int guest, int chair) {
        if (!now.hasGuest(guest) || !now.hasChair(chair)) {
            return BAD;
        }
        return foresight.sittingsToOwn(guest, chair);
    }

    public int between(int chair, int manner, int strength, int what) {
        if (!now.hasChair(chair) || !within(manner, 0, MANNERS - 1) || !within(strength, 0, WHOLE)
                || !within(what, 0, 1)) {
            return BAD;
        }
        return what == 0 ? foresight.sittersLeaving(chair, manner, strength)
                : foresight.pairsLeaving(chair, manner, strength);
    }

    public int trios(int what) {
        if (!now.stands()) {
            return STATE;
        }
        if (!within(what, 0, 1)) {
            return BAD;
        }
        return what == 0 ? now.trioCount() : now.firstTrio();
    }

    public int owns(int guest, int row, int i) {
        if (!now.hasGuest(guest) || !isRow(row)) {
            return BAD;
        }
        int finding = findingOf(row, i, now.chairCount);
        return finding != 0 ? found(finding) : sound(foresight.ownsBy(rows[row].items, i));
    }

    public int fits(int chair, int row, int i, int what) {
        if (!now.hasChair(chair) || !isRow(row) || !within(what, 0, 2)) {
            return BAD;
        }
        int finding = findingOf(row, i, now.guestCount);
        return finding != 0 ? found(finding) : sound(foresight.fitsBy(chair, rows[row].items, i, what));
    }

    public int caned(int q, int c, int what) {
        if (!now.stands()) {
            return STATE;
        }
        if (!within(q, 0, MOST_PEACE) || !within(c, 0, TENTHS) || !within(what, 0, 1)) {
            return BAD;
        }
        return foresight.chanceOfPeace(q, c, what);
    }

    public int drawn(int n, int seed, int what) {
        if (!now.stands()) {
            return STATE;
        }
        if (!within(n, 0, MOST_DRAWS) || !within(seed, 1, MOST_SEED) || !within(what, 0, 1)) {
            return BAD;
        }
        return foresight.eveningOf(n, seed, what);
    }

    public int image(int k) {
        if (!within(k, 0, IMAGES - 1)) {
            return BAD;
        }
        if (!now.stands()) {
            return STATE;
        }
        now.writeTo(images[k]);
        return 1;
    }

    public int restore(int k) {
        if (!within(k, 0, IMAGES - 1)) {
            return BAD;
        }
        if (images[k].size == 0) {
            return STATE;
        }
        now.readFrom(images[k]);
        forgetActs();
        return 1;
    }

    // ---- asked

    public int kind(int chair) {
        return now.hasChair(chair) ? now.chairs[chair].kind.number() : BAD;
    }

    public int as(int chair, int kind) {
        if (!now.hasChair(chair) || !within(kind, 0, KINDS)) {
            return BAD;
        }
        return isOf(now.chairs[chair].kind, kind) ? sound(chair) : found(KIND);
    }

    public int ask(int chair, int what) {
        if (!now.hasChair(chair) || !within(what, 0, 1)) {
            return BAD;
        }
        bodies.clear();
        Chair asked = now.chairs[chair];
        return what == 0 ? asked.kind.sizeOf(asked, bodies) : asked.kind.markOf(asked, bodies);
    }

    public int trace(int i) {
        return bodies.numberAt(i);
    }

    public int count(int what) {
        switch (what) {
            case 0: return rowsThere();
            case 1: return now.chairCount;
            case 2: return now.guestCount;
            case 3: return now.seatedGuests();
            case 4: return now.takenChairs();
            case 5: return now.strife;
            case 6: return actsKept;
            case 7: return reader.tape.size;
            default: return BAD;
        }
    }

    public int status() {
        return latestFinding;
    }

    // ---- helpers

    private static boolean within(int v, int least, int most) {
        return v >= least && v <= most;
    }

    private static boolean isRow(int row) {
        return within(row, 0, ROWS - 1);
    }

    private boolean isMissing(int row) {
        return lanes[row] == MISSING;
    }

    private int rowsThere() {
        int there = 0;
        for (int i = 0; i < ROWS; i++) {
            if (!isMissing(i)) {
                there++;
            }
        }
        return there;
    }

    private static int narrowed(int lane, int v) {
        switch (lane) {
            case 0: return (byte) v;
            case 1: return (short) v;
            default: return v;
        }
    }

    /** Why a ROW does not tell n ITEMS from i on; 0: it does. */
    private int findingOf(int row, int i, int n) {
        if (isMissing(row)) {
            return NULL;
        }
        return rows[row].holds(i, n) ? 0 : PLACE;
    }

    private int found(int finding) {
        latestFinding = finding;
        return FINDING - finding;
    }

    private int sound(int answer) {
        latestFinding = 0;
        return answer;
    }

    /** Ahead of each ACT the whole ROOM is kept, so that undoing needs to know nothing of the ACT. */
    private void keepAct() {
        now.writeTo(acts[(oldestAct + actsKept) % ACTS]);
        if (actsKept < ACTS) {
            actsKept++;
        } else {
            oldestAct = (oldestAct + 1) % ACTS;
        }
    }

    private void forgetActs() {
        oldestAct = 0;
        actsKept = 0;
    }

    private static boolean isOf(Kind kind, int number) {
        switch (number) {
            case 0: return true;
            case 1: return kind instanceof Plain;
            case 2: return kind instanceof Rocker;
            case 3: return kind instanceof Barbers;
            case 4: return kind instanceof Throne;
            case 5: return kind instanceof Dentists;
            default: return false;
        }
    }

    /** Numbers in a row, as many as were told when it was made at most; they can be read on from a mark. */
    private static final class Line {
        final int[] items;
        int size;
        private int mark;

        Line(int most) {
            items = new int[Math.max(most, 0)];
        }

        void clear() {
            size = 0;
            mark = 0;
        }

        boolean push(int v) {
            if (size >= items.length) {
                return false;
            }
            items[size] = v;
            size++;
            return true;
        }

        int numberAt(int i) {
            return i >= 0 && i < size ? items[i] : NONE;
        }

        /** Whether there are n numbers from i on; written so that nothing can run over. */
        boolean holds(int i, int n) {
            return i >= 0 && n >= 0 && i <= size && n <= size - i;
        }

        void rewind() {
            mark = 0;
        }

        int next() {
            if (mark >= size) {
                return NONE;
            }
            mark++;
            return items[mark - 1];
        }
    }

    /** How CHAIRS of a kind make one bear himself, wear, and answer ASKS; the numbers are the CHAIR's. */
    private abstract static class Kind {
        abstract int number();

        abstract int bearingOn(Chair c, int own);

        abstract void wear(Chair c);

        int sizeOf(Chair c, Line bodies) {
            bodies.push(10);
            return c.suite;
        }

        int markOf(Chair c, Line bodies) {
            bodies.push(20);
            return c.manner;
        }
    }

    private static class Plain extends Kind {
        int number() {
            return 1;
        }

        int bearingOn(Chair c, int own) {
            return blend(c.manner, c.strength, own);
        }

        void wear(Chair c) {
            c.strength -= (c.strength + 3) / 4;
        }

        int sizeOf(Chair c, Line bodies) {
            bodies.push(11);
            int lent = super.sizeOf(c, bodies);
            return lent + markOf(c, bodies);
        }

        int markOf(Chair c, Line bodies) {
            bodies.push(21);
            return super.markOf(c, bodies) + c.strength;
        }

        static int blend(int manner, int strength, int own) {
            return (manner * strength + own * (WHOLE - strength)) / WHOLE;
        }
    }

    private static final class Rocker extends Plain {
        int number() {
            return 2;
        }

        int bearingOn(Chair c, int own) {
            return c.sat % 2 == 0 ? blend(c.manner, c.strength, own) : own;
        }

        int sizeOf(Chair c, Line bodies) {
            bodies.push(12);
            return -super.sizeOf(c, bodies);
        }

        int markOf(Chair c, Line bodies) {
            bodies.push(24);
            return 2 * super.markOf(c, bodies);
        }
    }

    private static final class Barbers extends Plain {
        int number() {
            return 3;
        }

        int bearingOn(Chair c, int own) {
            return blend(mannerAfter(c.manner), c.strength, own);
        }

        void wear(Chair c) {
            super.wear(c);
            c.manner = mannerAfter(c.manner);
        }

        int markOf(Chair c, Line bodies) {
            bodies.push(22);
            return super.markOf(c, bodies) - 1000;
        }

        private static int mannerAfter(int manner) {
            return (manner + 1) % MANNERS;
        }
    }

    private static class Throne extends Kind {
        int number() {
            return 4;
        }

        int bearingOn(Chair c, int own) {
            return c.strength == 0 ? own : c.manner;
        }

        void wear(Chair c) {
            // a throne stays as it is
        }

        int sizeOf(Chair c, Line bodies) {
            bodies.push(13);
            return super.sizeOf(c, bodies) - 100;
        }

        int markOf(Chair c, Line bodies) {
            bodies.push(23);
            int lent = super.markOf(c, bodies);
            return lent - sizeOf(c, bodies);
        }
    }

    private static final class Dentists extends Throne {
        private static final int LEAST = 5;

        int number() {
            return 5;
        }

        int bearingOn(Chair c, int own) {
            return Math.max(super.bearingOn(c, own), LEAST);
        }

        int sizeOf(Chair c, Line bodies) {
            bodies.push(14);
            return 2 * super.sizeOf(c, bodies);
        }
    }

    private static final class Chair {
        Kind kind;
        int manner;
        int strength;
        int suite;
        int sat;
        int sitter = NONE;

        Chair(Kind kind) {
            this.kind = kind;
        }

        int bearingOf(int own) {
            return kind.bearingOn(this, own);
        }

        /** Somebody sits down: his BEARING; the CHAIR is then as he leaves it. */
        int bear(int own, int will) {
            int bearing = kind.bearingOn(this, own);
            sat = Math.min(sat + 1, MOST_SAT);
            kind.wear(this);
            if (strength < will) {
                manner = own;
                strength = WHOLE;
            }
            return bearing;
        }

        boolean isLike(int manner, int strength) {
            return this.manner == manner && this.strength == strength;
        }

        void takeAfter(Chair other) {
            kind = other.kind;
            manner = other.manner;
            strength = other.strength;
            suite = other.suite;
            sat = other.sat;
            sitter = other.sitter;
        }

        void writeTo(Line page) {
            page.push(kind.number());
            page.push(manner);
            page.push(strength);
            page.push(suite);
            page.push(sat);
            page.push(sitter);
        }

        void readFrom(Line page, Kind[] kinds) {
            int number = page.next();
            if (number >= 1 && number <= kinds.length) {
                kind = kinds[number - 1];
            }
            manner = page.next();
            strength = page.next();
            suite = page.next();
            sat = page.next();
            sitter = page.next();
        }
    }

    /** A ROOM with all who sit there; of one without CHAIRS it is said that there is none. */
    private static final class Room {
        private final Kind[] kinds;
        final Chair[] chairs = new Chair[CHAIRS];
        final int[] own = new int[GUESTS];
        final int[] will = new int[GUESTS];
        final int[] place = new int[GUESTS];
        final int[] bearing = new int[GUESTS];
        int chairCount;
        int guestCount;
        int strife;

        Room(Kind[] kinds) {
            this.kinds = kinds;
            for (int i = 0; i < CHAIRS; i++) {
                chairs[i] = new Chair(kinds[0]);
            }
        }

        void empty() {
            chairCount = 0;
            guestCount = 0;
            strife = 0;
        }

        void addChair(int number, int manner, int strength, int suite) {
            if (chairCount >= CHAIRS || number < 1 || number > kinds.length) {
                return;
            }
            Chair added = chairs[chairCount];
            added.kind = kinds[number - 1];
            added.manner = manner;
            added.strength = strength;
            added.suite = suite;
            added.sat = 0;
            added.sitter = NONE;
            chairCount++;
        }

        void addGuest(int ownManner, int ownWill) {
            if (guestCount >= GUESTS) {
                return;
            }
            own[guestCount] = ownManner;
            will[guestCount] = ownWill;
            place[guestCount] = NONE;
            bearing[guestCount] = NONE;
            guestCount++;
        }

        boolean stands() {
            return chairCount > 0;
        }

        boolean hasChair(int chair) {
            return chair >= 0 && chair < chairCount;
        }

        boolean hasGuest(int guest) {
            return guest >= 0 && guest < guestCount;
        }

        boolean isSeated(int guest) {
            return place[guest] != NONE;
        }

        boolean isTaken(int chair) {
            return chairs[chair].sitter != NONE;
        }

        void seatGuest(int guest, int chair) {
            putGuest(guest, chair, chairs[chair].bear(own[guest], will[guest]));
        }

        /** He sits there, but the CHAIR does not feel it. */
        void putGuest(int guest, int chair, int bearingThere) {
            place[guest] = chair;
            bearing[guest] = bearingThere;
            chairs[chair].sitter = guest;
        }

        void liftGuest(int guest) {
            if (hasChair(place[guest])) {
                chairs[place[guest]].sitter = NONE;
            }
            place[guest] = NONE;
            bearing[guest] = NONE;
        }

        void swapWithNext(int chair) {
            Chair first = chairs[chair];
            chairs[chair] = chairs[chair + 1];
            chairs[chair + 1] = first;
            for (int i = chair; i <= chair + 1; i++) {
                if (hasGuest(chairs[i].sitter)) {
                    place[chairs[i].sitter] = i;
                }
            }
        }

        int peaceNow() {
            int sum = 0;
            for (int i = 0; i + 1 < chairCount; i++) {
                sum += peaceBehind(i);
            }
            for (int i = 0; i + 2 < chairCount; i++) {
                if (isTrio(i) && isTaken(i) && isTaken(i + 1) && isTaken(i + 2)) {
                    sum -= strife;
                }
            }
            return sum;
        }

        /** The PEACE of a CHAIR and the next one. */
        private int peaceBehind(int chair) {
            int one = chairs[chair].sitter;
            int other = chairs[chair + 1].sitter;
            if (!hasGuest(one) || !hasGuest(other)) {
                return 0;
            }
            return 10 - Math.abs(bearing[one] - bearing[other]);
        }

        private boolean isTrio(int chair) {
            int suite = chairs[chair].suite;
            return chairs[chair + 1].suite == suite && chairs[chair + 2].suite == suite;
        }

        int trioCount() {
            int trios = 0;
            for (int i = 0; i + 2 < chairCount; i++) {
                if (isTrio(i)) {
                    trios++;
                }
            }
            return trios;
        }

        int firstTrio() {
            for (int i = 0; i + 2 < chairCount; i++) {
                if (isTrio(i)) {
                    return i;
                }
            }
            return NONE;
        }

        int firstFree() {
            for (int i = 0; i < chairCount; i++) {
                if (!isTaken(i)) {
                    return i;
                }
            }
            return NONE;
        }

        int seatedGuests() {
            int bits = 0;
            for (int i = 0; i < guestCount; i++) {
                if (isSeated(i)) {
                    bits |= 1 << i;
                }
            }
            return bits;
        }

        int takenChairs() {
            int bits = 0;
            for (int i = 0; i < chairCount; i++) {
                if (isTaken(i)) {
                    bits |= 1 << i;
                }
            }
            return bits;
        }

        int allManners() {
            int sum = 0;
            for (int i = 0; i < chairCount; i++) {
                sum += chairs[i].manner;
            }
            return sum;
        }

        void writeTo(Line page) {
            page.clear();
            page.push(chairCount);
            page.push(guestCount);
            page.push(strife);
            for (int i = 0; i < CHAIRS; i++) {
                chairs[i].writeTo(page);
            }
            for (int i = 0; i < GUESTS; i++) {
                page.push(own[i]);
                page.push(will[i]);
                page.push(place[i]);
                page.push(bearing[i]);
            }
        }

        void readFrom(Line page) {
            page.rewind();
            chairCount = page.next();
            guestCount = page.next();
            strife = page.next();
            for (int i = 0; i < CHAIRS; i++) {
                chairs[i].readFrom(page, kinds);
            }
            for (int i = 0; i < GUESTS; i++) {
                own[i] = page.next();
                will[i] = page.next();
                place[i] = page.next();
                bearing[i] = page.next();
            }
        }
    }

    /** Reads the tape from left to right into a ROOM of its own; behind the first FAULT it goes no further. */
    private static final class Reader {
        private static final int NOT_THERE = 1, NOT_AS_TOLD = 2, TOO_MANY = 3;
        private static final int END = -1, LONGEST = 2;

        final Line tape = new Line(TAPE);
        private final Line page = new Line(PAGE);
        private final Room draft;
        int at;
        int mistake;

        Reader(Kind[] kinds) {
            draft = new Room(kinds);
        }

        /** Whether there is no FAULT; else it is the mistake, at its place. The tape is empty then. */
        boolean readTape() {
            at = 0;
            mistake = 0;
            draft.empty();
            readLaw();
            readChairs();
            readGuests();
            if (at < tape.size) {
                fail(NOT_THERE);
            }
            tape.clear();
            return mistake == 0;
        }

        Line draftPage() {
            draft.writeTo(page);
            return page;
        }

        private void readLaw() {
            readSign('a');
            draft.strife = readNumber(0, MOST_STRIFE);
            readSign(';');
        }

        private void readChairs() {
            for (int i = 0; i <= CHAIRS && mistake == 0 && kindBy(ahead()) != 0; i++) {
                readChair();
            }
            if (draft.chairCount == 0) {
                fail(NOT_THERE);
            }
        }

        private void readChair() {
            if (draft.chairCount >= CHAIRS) {
                fail(TOO_MANY);
                return;
            }
            int number = kindBy(ahead());
            at++;
            int manner = readNumber(0, MANNERS - 1);
            readSign(',');
            int strength = readNumber(0, WHOLE);
            readSign(',');
            int suite = readNumber(0, MOST_SET);
            readSign(';');
            if (mistake == 0) {
                draft.addChair(number, manner, strength, suite);
            }
        }

        private void readGuests() {
            for (int i = 0; i <= GUESTS && mistake == 0 && ahead() == 'z'; i++) {
                readGuest();
            }
        }

        private void readGuest() {
            if (draft.guestCount >= GUESTS) {
                fail(TOO_MANY);
                return;
            }
            at++;
            int own = readNumber(0, MANNERS - 1);
            readSign(',');
            int will = readNumber(1, MOST_WILL);
            readSign(';');
            if (mistake == 0) {
                draft.addGuest(own, will);
            }
        }

        private void readSign(int sign) {
            if (mistake != 0) {
                return;
            }
            if (ahead() == sign) {
                at++;
            } else {
                fail(NOT_THERE);
            }
        }

        /** The next NUMBER; what it answers behind a FAULT is not used. */
        private int readNumber(int least, int most) {
            if (mistake != 0) {
                return least;
            }
            int figures = 0;
            int value = 0;
            while (figures <= LONGEST && isFigure(byteAt(at + figures))) {
                value = value * 10 + byteAt(at + figures) - '0';
                figures++;
            }
            if (figures == 0 || figures > LONGEST) {
                fail(NOT_THERE);
            } else if (value < least || value > most) {
                fail(NOT_AS_TOLD);
            } else {
                at += figures;
            }
            return value;
        }

        private int ahead() {
            return byteAt(at);
        }

        private int byteAt(int i) {
            return i < tape.size ? tape.numberAt(i) : END;
        }

        private static boolean isFigure(int letter) {
            return letter >= '0' && letter <= '9';
        }

        private static int kindBy(int letter) {
            switch (letter) {
                case 'p': return 1;
                case 'r': return 2;
                case 'b': return 3;
                case 't': return 4;
                case 'd': return 5;
                default: return 0;
            }
        }

        private void fail(int number) {
            if (mistake == 0) {
                mistake = number;
            }
        }
    }

    /** What would be: all of it is tried on a ROOM and a CHAIR of its own, so that nothing changes. */
    private static final class Foresight {
        private final Room now;
        private final Room trial;
        private final Kind[] kinds;
        private final Chair stool;
        private final Line page = new Line(PAGE);
        private final int[] sitters = new int[MOST_SITTINGS];
        private final int[] bestPlaces = new int[GUESTS];
        private int bestPeace;

        Foresight(Room now, Kind[] kinds) {
            this.now = now;
            this.kinds = kinds;
            trial = new Room(kinds);
            stool = new Chair(kinds[0]);
        }

        private void startTrial() {
            now.writeTo(page);
            trial.readFrom(page);
        }

        private int bearOnStool(int guest) {
            return stool.bear(now.own[guest], now.will[guest]);
        }

        int wouldBe(int guest, int chair, int what) {
            stool.takeAfter(now.chairs[chair]);
            int bearing = bearOnStool(guest);
            switch (what) {
                case 0: return bearing;
                case 1: return stool.manner;
                default: return stool.strength;
            }
        }

        int bestSeating(int k) {
            int standing = now.guestCount - Integer.bitCount(now.seatedGuests());
            int free = now.chairCount - Integer.bitCount(now.takenChairs());
            if (standing > free || k >= now.guestCount) {
                return NONE;
            }
            startTrial();
            bestPeace = NONE;
            seatFrom(0);
            return k < 0 ? bestPeace : bestPlaces[k];
        }

        /** Tries all CHAIRS for the GUESTS from this one on; of several the first stays, as it comes first. */
        private void seatFrom(int guest) {
            if (guest >= now.guestCount || guest >= GUESTS) {
                weighTrial();
                return;
            }
            if (now.isSeated(guest)) {
                seatFrom(guest + 1);
                return;
            }
            for (int chair = 0; chair < now.chairCount; chair++) {
                if (!trial.isTaken(chair)) {
                    trial.putGuest(guest, chair, trial.chairs[chair].bearingOf(trial.own[guest]));
                    seatFrom(guest + 1);
                    trial.liftGuest(guest);
                }
            }
        }

        private void weighTrial() {
            int peace = trial.peaceNow();
            if (peace <= bestPeace) {
                return;
            }
            bestPeace = peace;
            for (int i = 0; i < GUESTS; i++) {
                bestPlaces[i] = trial.place[i];
            }
        }

        /** WARM: how many sittings; their GUESTS are those of sitterOf then. */
        int fewestSittings(int guest, int chair, int bearing) {
            int ways = 1;
            for (int sittings = 0; sittings <= MOST_SITTINGS; sittings++) {
                for (int way = 0; way < ways; way++) {
                    spellSitters(way, sittings);
                    if (bearingBehind(sittings, guest, chair) == bearing) {
                        return sittings;
                    }
                }
                ways *= now.guestCount;
            }
            return NONE;
        }

        int sitterOf(int k) {
            return k >= 0 && k < MOST_SITTINGS ? sitters[k] : NONE;
        }

        /** The row of GUESTS that comes as this one by numbers, among rows of that length. */
        private void spellSitters(int way, int sittings) {
            int guests = Math.max(now.guestCount, 1);
            int rest = way;
            for (int i = sittings - 1; i >= 0; i--) {
                sitters[i] = rest % guests;
                rest /= guests;
            }
        }

        private int bearingBehind(int sittings, int guest, int chair) {
            stool.takeAfter(now.chairs[chair]);
            for (int i = 0; i < sittings; i++) {
                bearOnStool(sitters[i]);
            }
            return stool.bearingOf(now.own[guest]);
        }

        int sittingsToOwn(int guest, int chair) {
            stool.takeAfter(now.chairs[chair]);
            for (int sittings = 0; sittings <= MOST_PURE; sittings++) {
                if (bearOnStool(guest) == now.own[guest]) {
                    return sittings;
                }
            }
            return NONE;
        }

        int sittersLeaving(int chair, int manner, int strength) {
            int bits = 0;
            for (int guest = 0; guest < now.guestCount; guest++) {
                stool.takeAfter(now.chairs[chair]);
                bearOnStool(guest);
                if (stool.isLike(manner, strength)) {
                    bits |= 1 << guest;
                }
            }
            return bits;
        }

        int pairsLeaving(int chair, int manner, int strength) {
            int pairs = 0;
            for (int one = 0; one < now.guestCount; one++) {
                for (int other = 0; other < now.guestCount; other++) {
                    stool.takeAfter(now.chairs[chair]);
                    bearOnStool(one);
                    bearOnStool(other);
                    if (stool.isLike(manner, strength)) {
                        pairs++;
                    }
                }
            }
            return pairs;
        }

        int ownsBy(int[] items, int from) {
            int bits = 0;
            for (int own = 0; own < MANNERS; own++) {
                if (ownGives(own, items, from)) {
                    bits |= 1 << own;
                }
            }
            return bits;
        }

        private boolean ownGives(int own, int[] items, int from) {
            for (int i = 0; i < now.chairCount; i++) {
                if (now.chairs[i].bearingOf(own) != items[from + i]) {
                    return false;
                }
            }
            return true;
        }

        int fitsBy(int chair, int[] items, int from, int what) {
            int least = what == 2 ? 1 : 0;
            int most = what == 0 ? MANNERS - 1 : what == 1 ? WHOLE : KINDS;
            int bits = 0;
            for (int v = least; v <= most; v++) {
                stool.takeAfter(now.chairs[chair]);
                alterStool(what, v);
                if (stoolGives(items, from)) {
                    bits |= 1 << v;
                }
            }
            return bits;
        }

        private void alterStool(int what, int v) {
            switch (what) {
                case 0:
                    stool.manner = v;
                    break;
                case 1:
                    stool.strength = v;
                    break;
                default:
                    if (v >= 1 && v <= kinds.length) {
                        stool.kind = kinds[v - 1];
                    }
                    break;
            }
        }

        private boolean stoolGives(int[] items, int from) {
            for (int guest = 0; guest < now.guestCount; guest++) {
                if (bearOnStool(guest) != items[from + guest]) {
                    return false;
                }
            }
            return true;
        }

        /** CANED: each set of CHAIRS that may be recaned is weighed, in tenths for each CHAIR. */
        int chanceOfPeace(int least, int tenths, int what) {
            now.writeTo(page);
            int above = 0;
            int below = 1;
            for (int i = 0; i < now.chairCount; i++) {
                below *= TENTHS;
            }
            for (int recaned = 0; recaned < 1 << now.chairCount; recaned++) {
                if (peaceIfRecaned(recaned) >= least) {
                    above += weightOf(recaned, tenths);
                }
            }
            int common = commonDivisor(below, above);
            return (what == 0 ? above : below) / common;
        }

        private int peaceIfRecaned(int recaned) {
            trial.readFrom(page);
            for (int i = 0; i < trial.chairCount; i++) {
                if ((recaned >> i & 1) == 1) {
                    trial.chairs[i].strength = 0;
                }
            }
            for (int guest = 0; guest < trial.guestCount; guest++) {
                int free = trial.firstFree();
                if (free != NONE && !trial.isSeated(guest)) {
                    trial.seatGuest(guest, free);
                }
            }
            return trial.peaceNow();
        }

        private int weightOf(int recaned, int tenths) {
            int weight = 1;
            for (int i = 0; i < now.chairCount; i++) {
                weight *= (recaned >> i & 1) == 1 ? tenths : TENTHS - tenths;
            }
            return weight;
        }

        /** The greatest number that divides both; never 0, so that it can be divided by. */
        private static int commonDivisor(int a, int b) {
            int one = Math.max(a, 1);
            int other = b;
            for (int i = 0; i < 100 && other > 0; i++) {
                int rest = one % other;
                one = other;
                other = rest;
            }
            return one;
        }

        int eveningOf(int n, int seed, int what) {
            startTrial();
            int bearings = 0;
            long x = seed;
            for (int i = 0; i < n; i++) {
                x = x * FACTOR % MODULUS;
                bearings += drawnBearing(x);
            }
            return what == 0 ? bearings : trial.allManners();
        }

        private int drawnBearing(long x) {
            if (trial.guestCount == 0 || trial.chairCount == 0) {
                return 0;
            }
            int guest = (int) (x % trial.guestCount);
            int chair = (int) (x % trial.chairCount);
            return trial.chairs[chair].bear(trial.own[guest], trial.will[guest]);
        }
    }
}
