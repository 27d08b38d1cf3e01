import java.util.Arrays;

/**
 * The tram is where it is expected: at the stop at which it is hoped for most.
 * Words in capitals are those of the document, whose promises the public methods keep.
 */
public final class TramFaith {
    public static final int NONE = -1000000, BAD = -1000001, STATE = -1000002, FULL = -1000003;

    private static final int FINDINGS = -1000010;
    private static final int NULL = 1, PLACE = 2, KIND = 3, SIZE = 4, STORE = 5;
    private static final int FAULTS = -1000100;

    private static final int ROWS = 8, MOST_ITEMS = 40;
    private static final int BYTES = 0, SHORTS = 1, INTS = 2;
    private static final int MOST_TAPE = 100;
    private static final int LEAST_STOPS = 2, MOST_STOPS = 8, MOST_PEOPLE = 6;
    private static final int MOST_BOUND = 40, MOST_FAITH = 20, MOST_WAITED = 99;
    private static final int MOST_ACTS = 24, MOST_MINUTES = 24, LAST_MINUTE = 999;
    private static final int FAR = 60, MOST_TOLD = 16, MOST_BOUND_TOLD = 29, MOST_MORE = 40;
    private static final int IMAGES = 2, KINDS = 5, MOST_TRACE = 16;
    private static final int OF_TEN = 10;
    private static final int MOST_SEED = 999999;
    private static final long DRAW = 16807, DRAW_REST = 2147483647;

    /** Where THE TRAM is if it is at no STOP; rows tell it by the same number. */
    private static final int NOWHERE = -1;
    private static final int NOBODY = 0;

    private final Shelf shelf;
    private final Tape tape;
    private final Line line;
    /** What is foretold is played on this one, and a tape is read into it, so that line stays as it is. */
    private final Line play;
    private final Line[] images;
    private final Past past;
    private final Asked asked;
    private int latestFault;
    private int latestFinding;

    public TramFaith() {
        Waiter[] waiters = {new Plain(), new Crowd(), new Doubter(), new Child(), new Saint()};
        shelf = new Shelf();
        tape = new Tape();
        line = new Line(waiters);
        play = new Line(waiters);
        images = new Line[] {new Line(waiters), new Line(waiters)};
        past = new Past();
        asked = new Asked();
    }

    // ---- rows

    public int row(int row, int lane, int n) {
        if (!isRow(row) || !isWithin(lane, BYTES, INTS) || n > MOST_ITEMS) {
            return BAD;
        }
        if (n < 0) {
            return found(SIZE);
        }
        shelf.make(row, lane, n);
        return foundNothing(n);
    }

    public int set(int row, int i, int v) {
        if (!isRow(row)) {
            return BAD;
        }
        int finding = shelf.findingOf(row, i, 1);
        if (finding != 0) {
            return found(finding);
        }
        return foundNothing(shelf.put(row, i, v));
    }

    public int copy(int a, int i, int b, int j, int n) {
        if (!isRow(a) || !isRow(b)) {
            return BAD;
        }
        int finding = shelf.findingOfMove(a, i, b, j, n);
        if (finding != 0) {
            return found(finding);
        }
        shelf.move(a, i, b, j, n);
        return foundNothing(n);
    }

    public int drop(int row) {
        if (!isRow(row)) {
            return BAD;
        }
        if (shelf.isMissing(row)) {
            return found(NULL);
        }
        return foundNothing(shelf.remove(row));
    }

    // ---- lines, acts

    public int feed(int letter) {
        if (!isWithin(letter, 0, 255)) {
            return BAD;
        }
        if (tape.size >= MOST_TAPE) {
            return FULL;
        }
        tape.put(letter);
        return tape.size;
    }

    public int line() {
        boolean isLine = tape.readInto(play);
        tape.size = 0;
        if (!isLine) {
            latestFault = tape.fault;
            return FAULTS - tape.faultPlace;
        }
        line.become(play);
        past.forget();
        return line.people;
    }

    public int fault() {
        return latestFault;
    }

    public int minutes(int n) {
        if (!hasLine()) {
            return STATE;
        }
        if (!isWithin(n, 1, MOST_MINUTES)) {
            return BAD;
        }
        if (line.minute + n > LAST_MINUTE) {
            return FULL;
        }
        for (int k = 0; k < n; k++) {
            past.keep(line);
            line.pass(NOBODY);
        }
        return line.thereBits();
    }

    public int walk(int person, int up) {
        if (!isPerson(person) || !isWithin(up, 0, 1)) {
            return BAD;
        }
        int next = line.at[person] + (up == 1 ? 1 : -1);
        if (!isStop(next)) {
            return STATE;
        }
        past.keep(line);
        line.moveTo(person, next);
        return next;
    }

    public int preach(int person, int v) {
        if (!isPerson(person) || !isWithin(v, 0, MOST_FAITH)) {
            return BAD;
        }
        past.keep(line);
        int was = line.faith[person];
        line.faith[person] = v;
        return was;
    }

    public int wish(int person, int stop) {
        if (!isPerson(person) || !isStop(stop)) {
            return BAD;
        }
        past.keep(line);
        int was = line.wants[person];
        line.wants[person] = stop;
        return was;
    }

    public int undo() {
        if (past.kept == 0) {
            return STATE;
        }
        past.takeBack(line);
        return past.kept;
    }

    public int person(int person, int what) {
        if (!isPerson(person)) {
            return BAD;
        }
        switch (what) {
            case 0: return line.at[person];
            case 1: return line.faith[person];
            case 2: return line.wants[person];
            case 3: return line.waited[person];
            case 4: return line.hopeOf(person);
            default: return BAD;
        }
    }

    public int stop(int stop, int what) {
        if (!isStop(stop) || !isWithin(what, 0, 1)) {
            return BAD;
        }
        return what == 0 ? line.hopeAt(stop) : line.whoIsAt(stop);
    }

    // ---- foretold

    public int where(int person, int d) {
        if (!isPerson(person) || !isWithin(d, 0, FAR)) {
            return BAD;
        }
        playFor(d);
        return play.at[person];
    }

    public int tram(int d) {
        if (!hasLine()) {
            return STATE;
        }
        if (!isWithin(d, 0, FAR)) {
            return BAD;
        }
        playFor(d);
        int stop = play.tramWithout(NOBODY);
        return stop == NOWHERE ? NONE : stop;
    }

    public int there(int d) {
        if (!hasLine()) {
            return STATE;
        }
        if (!isWithin(d, 0, FAR)) {
            return BAD;
        }
        playFor(d);
        return play.thereBits();
    }

    public int when(int person) {
        if (!isPerson(person)) {
            return BAD;
        }
        play.become(line);
        return playTill(1 << person, NOBODY, FAR);
    }

    public int all() {
        if (!hasLine()) {
            return STATE;
        }
        play.become(line);
        return playTill(line.everybody(), NOBODY, FAR);
    }

    public int never() {
        if (!hasLine()) {
            return STATE;
        }
        // nobody leaves the STOP he WANTS by himself: who is not THERE at the end never was
        playFor(FAR);
        return line.everybody() & ~play.thereBits();
    }

    public int holding() {
        if (!hasLine()) {
            return STATE;
        }
        return line.holdingBits();
    }

    public int call(int stop, int what) {
        if (!isStop(stop) || !isWithin(what, 0, 1)) {
            return BAD;
        }
        play.become(line);
        for (int more = 0; more <= MOST_MORE; more++) {
            int caller = callerBy(stop, more);
            if (caller != NONE) {
                return what == 0 ? more : caller;
            }
        }
        return NONE;
    }

    public int go(int person, int what) {
        if (!isPerson(person) || !isWithin(what, 0, 1)) {
            return BAD;
        }
        int best = NONE;
        int soonest = NONE;
        for (int stop = 0; stop < line.stops; stop++) {
            int behind = stop == line.wants[person] ? NONE : soonFrom(person, stop);
            if (behind != NONE && (soonest == NONE || behind < soonest)) {
                best = stop;
                soonest = behind;
            }
        }
        return what == 0 ? best : soonest;
    }

    public int walkers(int d, int what) {
        if (!hasLine()) {
            return STATE;
        }
        if (!isWithin(d, 0, FAR) || !isWithin(what, 0, 1)) {
            return BAD;
        }
        for (int many = 0; many <= line.people; many++) {
            int who = leastWalkers(many, d);
            if (who != NONE) {
                return what == 0 ? many : who;
            }
        }
        return NONE;
    }

    public int fits(int person, int row, int i, int n, int what) {
        if (!isPerson(person) || !isRow(row) || !isWithin(n, 1, MOST_TOLD) || !isWithin(what, 0, 1)) {
            return BAD;
        }
        int finding = shelf.findingOf(row, i, n);
        if (finding != 0) {
            return found(finding);
        }
        return foundNothing(what == 0 ? faithsBy(person, row, i, n) : sortsBy(person, row, i, n));
    }

    public int bounds(int row, int i, int n) {
        if (!hasLine()) {
            return STATE;
        }
        if (!isRow(row) || !isWithin(n, 1, MOST_TOLD)) {
            return BAD;
        }
        int finding = shelf.findingOf(row, i, n);
        if (finding != 0) {
            return found(finding);
        }
        return foundNothing(boundsBy(row, i, n));
    }

    public int rain(int stop, int c, int what) {
        if (!isStop(stop) || !isWithin(c, 0, OF_TEN) || !isWithin(what, 0, 1)) {
            return BAD;
        }
        int above = 0;
        int below = 0;
        for (int silent = 0; silent <= line.everybody(); silent++) {
            int ways = waysOf(silent, c);
            below += ways;
            if (line.tramWithout(silent) == stop) {
                above += ways;
            }
        }
        return (what == 0 ? above : below) / sharedBy(above, below);
    }

    public int drawn(int n, int seed, int what) {
        if (!hasLine()) {
            return STATE;
        }
        if (!isWithin(n, 0, FAR) || !isWithin(seed, 1, MOST_SEED) || !isWithin(what, 0, 1)) {
            return BAD;
        }
        play.become(line);
        long x = seed;
        int anywhere = 0;
        for (int k = 0; k < n; k++) {
            x = x * DRAW % DRAW_REST;
            preachByDraw(x);
            if (play.pass(NOBODY) != NOWHERE) {
                anywhere++;
            }
        }
        return what == 0 ? play.thereBits() : anywhere;
    }

    public int image(int k) {
        if (!isWithin(k, 0, IMAGES - 1)) {
            return BAD;
        }
        if (!hasLine()) {
            return STATE;
        }
        images[k].become(line);
        return 1;
    }

    public int restore(int k) {
        if (!isWithin(k, 0, IMAGES - 1)) {
            return BAD;
        }
        if (images[k].stops == 0) {
            return STATE;
        }
        line.become(images[k]);
        past.forget();
        return 1;
    }

    // ---- asked

    public int kind(int person) {
        if (!isPerson(person)) {
            return BAD;
        }
        return line.kind[person];
    }

    public int as(int person, int kind) {
        if (!isPerson(person) || !isWithin(kind, 0, KINDS)) {
            return BAD;
        }
        if (!isOne(line.waiter(person), kind)) {
            return found(KIND);
        }
        return foundNothing(person);
    }

    public int ask(int person, int what) {
        if (!isPerson(person) || !isWithin(what, 0, 1)) {
            return BAD;
        }
        asked.beginAbout(person, line.faith[person], line.waited[person]);
        Waiter waiter = line.waiter(person);
        return what == 0 ? waiter.askSize(asked) : waiter.askMark(asked);
    }

    public int trace(int i) {
        return asked.bodyAt(i);
    }

    public int count(int what) {
        switch (what) {
            case 0: return shelf.howMany();
            case 1: return line.stops;
            case 2: return line.people;
            case 3: return line.minute;
            case 4: return line.bound;
            case 5: return line.thereBits();
            case 6: return past.kept;
            case 7: return tape.size;
            default: return BAD;
        }
    }

    public int status() {
        return latestFinding;
    }

    // ---- what the calls share

    private static boolean isWithin(int v, int least, int most) {
        return v >= least && v <= most;
    }

    private static boolean isIn(int bits, int n) {
        return (bits >> n & 1) == 1;
    }

    private static boolean isRow(int row) {
        return isWithin(row, 0, ROWS - 1);
    }

    private boolean hasLine() {
        return line.stops > 0;
    }

    private boolean isPerson(int person) {
        return isWithin(person, 0, line.people - 1);
    }

    private boolean isStop(int stop) {
        return isWithin(stop, 0, line.stops - 1);
    }

    private int found(int finding) {
        latestFinding = finding;
        return FINDINGS - finding;
    }

    private int foundNothing(int answer) {
        latestFinding = 0;
        return answer;
    }

    private static boolean isOne(Waiter waiter, int kind) {
        switch (kind) {
            case 0: return true;
            case 1: return waiter instanceof Plain;
            case 2: return waiter instanceof Crowd;
            case 3: return waiter instanceof Doubter;
            case 4: return waiter instanceof Child;
            case 5: return waiter instanceof Saint;
            default: return false;
        }
    }

    /** Plays d MINUTES from now on. */
    private void playFor(int d) {
        play.become(line);
        for (int k = 0; k < d; k++) {
            play.pass(NOBODY);
        }
    }

    /** Plays on till all of these people are THERE at once: behind how many MINUTES, 0 to most; NONE. */
    private int playTill(int people, int walking, int most) {
        for (int d = 0; d < most; d++) {
            if ((play.thereBits() & people) == people) {
                return d;
            }
            play.pass(walking);
        }
        return (play.thereBits() & people) == people ? most : NONE;
    }

    /** The least number of one who is at the STOP and calls THE TRAM there by that much more FAITH; NONE. */
    private int callerBy(int stop, int more) {
        for (int p = 0; p < play.people; p++) {
            if (play.at[p] == stop) {
                play.faith[p] += more;
                boolean calls = play.tramWithout(NOBODY) == stop;
                play.faith[p] -= more;
                if (calls) {
                    return p;
                }
            }
        }
        return NONE;
    }

    private int soonFrom(int person, int stop) {
        play.become(line);
        if (stop != line.at[person]) {
            play.moveTo(person, stop);
        }
        return playTill(1 << person, NOBODY, FAR);
    }

    private int leastWalkers(int many, int d) {
        for (int who = 0; who <= line.everybody(); who++) {
            if (Integer.bitCount(who) == many) {
                play.become(line);
                if (playTill(line.everybody(), who, d) != NONE) {
                    return who;
                }
            }
        }
        return NONE;
    }

    private int faithsBy(int person, int row, int i, int n) {
        int faiths = 0;
        for (int faith = 0; faith <= MOST_FAITH; faith++) {
            play.become(line);
            play.faith[person] = faith;
            if (playIsAsTold(row, i, n)) {
                faiths |= 1 << faith;
            }
        }
        return faiths;
    }

    private int sortsBy(int person, int row, int i, int n) {
        int sorts = 0;
        for (int kind = 1; kind <= KINDS; kind++) {
            play.become(line);
            play.kind[person] = kind;
            if (playIsAsTold(row, i, n)) {
                sorts |= 1 << kind;
            }
        }
        return sorts;
    }

    private int boundsBy(int row, int i, int n) {
        int fitting = 0;
        for (int bound = 0; bound <= MOST_BOUND_TOLD; bound++) {
            play.become(line);
            play.bound = bound;
            if (playIsAsTold(row, i, n)) {
                fitting |= 1 << bound;
            }
        }
        return fitting;
    }

    private boolean playIsAsTold(int row, int i, int n) {
        for (int k = 0; k < n; k++) {
            if (play.pass(NOBODY) != shelf.itemAt(row, i + k)) {
                return false;
            }
        }
        return true;
    }

    /** In how many of all ways it is just these who do not HOPE. */
    private int waysOf(int silent, int c) {
        int ways = 1;
        for (int p = 0; p < line.people; p++) {
            ways *= isIn(silent, p) ? c : OF_TEN - c;
        }
        return ways;
    }

    /** The greatest number that divides both, 1 at least. */
    private static int sharedBy(int above, int below) {
        int greater = below;
        int less = above;
        // Euclid's steps on numbers of seven figures are far fewer
        for (int step = 0; step < 100 && less > 0; step++) {
            int rest = greater % less;
            greater = less;
            less = rest;
        }
        return Math.max(greater, 1);
    }

    private void preachByDraw(long x) {
        if (play.people > 0) {
            play.faith[(int) (x % play.people)] = (int) (x % (MOST_FAITH + 1));
        }
    }

    /** ROWS 0 .. 7; made once, since what a run makes is counted. */
    private static final class Shelf {
        private static final int MISSING = -1;

        private final int[][] items = new int[ROWS][MOST_ITEMS];
        private final int[] lanes = new int[ROWS];
        private final int[] sizes = new int[ROWS];

        Shelf() {
            Arrays.fill(sizes, MISSING);
        }

        boolean isMissing(int row) {
            return sizes[row] == MISSING;
        }

        int howMany() {
            int many = 0;
            for (int row = 0; row < ROWS; row++) {
                if (!isMissing(row)) {
                    many++;
                }
            }
            return many;
        }

        void make(int row, int lane, int n) {
            lanes[row] = lane;
            sizes[row] = n;
            Arrays.fill(items[row], 0);
        }

        int remove(int row) {
            int had = sizes[row];
            sizes[row] = MISSING;
            return had;
        }

        int itemAt(int row, int i) {
            return items[row][i];
        }

        int put(int row, int i, int v) {
            int kept = v;
            if (lanes[row] == BYTES) {
                kept = (byte) v;
            } else if (lanes[row] == SHORTS) {
                kept = (short) v;
            }
            items[row][i] = kept;
            return kept;
        }

        void move(int a, int i, int b, int j, int n) {
            System.arraycopy(items[a], i, items[b], j, n);
        }

        /** The FINDING of n ITEMS from i on; 0: none. */
        int findingOf(int row, int i, int n) {
            if (isMissing(row)) {
                return NULL;
            }
            return hasSpan(row, i, n) ? 0 : PLACE;
        }

        int findingOfMove(int a, int i, int b, int j, int n) {
            if (isMissing(a) || isMissing(b)) {
                return NULL;
            }
            if (lanes[a] != lanes[b]) {
                return STORE;
            }
            return hasSpan(a, i, n) && hasSpan(b, j, n) ? 0 : PLACE;
        }

        private boolean hasSpan(int row, int i, int n) {
            // i + n could wrap around
            return n >= 0 && i >= 0 && i <= sizes[row] - n;
        }
    }

    /** THE TAPE, and how it is read. */
    private static final class Tape {
        private static final int CANNOT_STAND = 1, NOT_AS_TOLD = 2, NO_ROOM = 3;
        private static final String SORTS = "pcdks";

        int size;
        int fault;
        int faultPlace;
        private final int[] letters = new int[MOST_TAPE];
        /** The first byte of the TOKEN that is read next. */
        private int next;
        private int number;

        void put(int letter) {
            if (size < MOST_TAPE) {
                letters[size] = letter;
                size++;
            }
        }

        /** Whether the tape is a LINE, which the draft is then; else the FAULT and its place are kept. */
        boolean readInto(Line draft) {
            next = 0;
            return readLaw(draft) && readPeople(draft);
        }

        private boolean readLaw(Line draft) {
            if (!takeSign('t') || !takeNumber(LEAST_STOPS, MOST_STOPS) || !takeSign(',')) {
                return false;
            }
            int stops = number;
            if (!takeNumber(0, MOST_BOUND) || !takeSign(';')) {
                return false;
            }
            draft.begin(stops, number);
            return true;
        }

        private boolean readPeople(Line draft) {
            // one round more than there is room for, which finds that FAULT
            for (int p = 0; p <= MOST_PEOPLE && next < size; p++) {
                int kind = SORTS.indexOf((char) letters[next]) + 1;
                if (kind == 0) {
                    return fails(CANNOT_STAND);
                }
                if (p == MOST_PEOPLE) {
                    return fails(NO_ROOM);
                }
                next++;
                if (!readPerson(draft, kind)) {
                    return false;
                }
            }
            return true;
        }

        private boolean readPerson(Line draft, int kind) {
            int lastStop = draft.stops - 1;
            if (!takeNumber(0, lastStop) || !takeSign(',')) {
                return false;
            }
            int at = number;
            if (!takeNumber(0, MOST_FAITH) || !takeSign(',')) {
                return false;
            }
            int faith = number;
            if (!takeNumber(0, lastStop) || !takeSign(';')) {
                return false;
            }
            draft.add(kind, at, faith, number);
            return true;
        }

        private boolean takeSign(char sign) {
            if (next >= size || letters[next] != sign) {
                return fails(CANNOT_STAND);
            }
            next++;
            return true;
        }

        private boolean takeNumber(int least, int most) {
            int end = next;
            int read = 0;
            while (end < size && isWithin(letters[end], '0', '9')) {
                // only the first two figures count, so that a long run does not wrap around
                if (end - next < 2) {
                    read = read * 10 + letters[end] - '0';
                }
                end++;
            }
            if (!isWithin(end - next, 1, 2)) {
                return fails(CANNOT_STAND);
            }
            if (!isWithin(read, least, most)) {
                return fails(NOT_AS_TOLD);
            }
            number = read;
            next = end;
            return true;
        }

        private boolean fails(int why) {
            fault = why;
            faultPlace = next;
            return false;
        }
    }

    /** A LINE: the law, and its PEOPLE as they are at one MINUTE. Without STOPS it is none. */
    private static final class Line {
        int stops;
        int bound;
        int people;
        int minute;
        final int[] kind = new int[MOST_PEOPLE];
        final int[] at = new int[MOST_PEOPLE];
        final int[] faith = new int[MOST_PEOPLE];
        final int[] wants = new int[MOST_PEOPLE];
        final int[] waited = new int[MOST_PEOPLE];
        /** One of each KIND from 1 on, shared by all LINES. */
        private final Waiter[] waiters;
        private final int[] crowds = new int[MOST_STOPS];
        private final int[] hopes = new int[MOST_STOPS];

        Line(Waiter[] waiters) {
            this.waiters = waiters;
        }

        void begin(int stops, int bound) {
            this.stops = stops;
            this.bound = bound;
            people = 0;
            minute = 0;
        }

        void add(int kind, int at, int faith, int wants) {
            if (people < MOST_PEOPLE) {
                this.kind[people] = kind;
                this.at[people] = at;
                this.faith[people] = faith;
                this.wants[people] = wants;
                waited[people] = 0;
                people++;
            }
        }

        void become(Line other) {
            stops = other.stops;
            bound = other.bound;
            people = other.people;
            minute = other.minute;
            System.arraycopy(other.kind, 0, kind, 0, MOST_PEOPLE);
            System.arraycopy(other.at, 0, at, 0, MOST_PEOPLE);
            System.arraycopy(other.faith, 0, faith, 0, MOST_PEOPLE);
            System.arraycopy(other.wants, 0, wants, 0, MOST_PEOPLE);
            System.arraycopy(other.waited, 0, waited, 0, MOST_PEOPLE);
        }

        Waiter waiter(int p) {
            return waiters[kind[p] - 1];
        }

        int everybody() {
            return (1 << people) - 1;
        }

        int thereBits() {
            int bits = 0;
            for (int p = 0; p < people; p++) {
                if (at[p] == wants[p]) {
                    bits |= 1 << p;
                }
            }
            return bits;
        }

        int whoIsAt(int stop) {
            int bits = 0;
            for (int p = 0; p < people; p++) {
                if (at[p] == stop) {
                    bits |= 1 << p;
                }
            }
            return bits;
        }

        int hopeOf(int p) {
            int others = Integer.bitCount(whoIsAt(at[p])) - 1;
            return waiter(p).hopesBy(faith[p], waited[p], others);
        }

        int hopeAt(int stop) {
            tellHopes(NOBODY);
            return hopes[stop];
        }

        int holdingBits() {
            tellHopes(NOBODY);
            int bits = 0;
            for (int stop = 0; stop < stops; stop++) {
                if (hopes[stop] >= leastHope()) {
                    bits |= 1 << stop;
                }
            }
            return bits;
        }

        /** Where THE TRAM is, if the silent ones (bits) do not HOPE; NOWHERE. */
        int tramWithout(int silent) {
            tellHopes(silent);
            int place = NOWHERE;
            int most = leastHope() - 1;
            for (int stop = 0; stop < stops; stop++) {
                if (hopes[stop] > most) {
                    place = stop;
                    most = hopes[stop];
                }
            }
            return place;
        }

        /** A MINUTE, in which some walk (bits) where they WANT to be: where THE TRAM is ahead of it. */
        int pass(int walking) {
            int tram = tramWithout(NOBODY);
            for (int p = 0; p < people; p++) {
                if (at[p] != wants[p] && (at[p] == tram || isIn(walking, p))) {
                    moveTo(p, at[p] < wants[p] ? at[p] + 1 : at[p] - 1);
                } else {
                    waited[p] = Math.min(waited[p] + 1, MOST_WAITED);
                }
            }
            minute++;
            return tram;
        }

        void moveTo(int p, int stop) {
            at[p] = stop;
            waited[p] = 0;
        }

        /** The least HOPE by which THE TRAM comes. */
        private int leastHope() {
            return Math.max(bound, 1);
        }

        private void tellHopes(int silent) {
            tellCrowds();
            Arrays.fill(hopes, 0);
            for (int p = 0; p < people; p++) {
                if (!isIn(silent, p)) {
                    hopes[at[p]] += waiter(p).hopesBy(faith[p], waited[p], crowds[at[p]] - 1);
                }
            }
        }

        private void tellCrowds() {
            Arrays.fill(crowds, 0);
            for (int p = 0; p < people; p++) {
                crowds[at[p]]++;
            }
        }
    }

    /** What the ACTS that can be undone were done to, the latest last, in a ring of pages. */
    private static final class Past {
        /** The MINUTE, and of each one all that an ACT can change. */
        private static final int PAGE = 1 + 4 * MOST_PEOPLE;

        int kept;
        private int oldest;
        private final int[] pages = new int[MOST_ACTS * PAGE];

        void forget() {
            kept = 0;
        }

        /** Keeps the LINE as it is ahead of an ACT. */
        void keep(Line line) {
            if (kept == MOST_ACTS) {
                oldest = (oldest + 1) % MOST_ACTS;
                kept--;
            }
            int page = pageOf(kept);
            pages[page] = line.minute;
            System.arraycopy(line.at, 0, pages, page + 1, MOST_PEOPLE);
            System.arraycopy(line.faith, 0, pages, page + 1 + MOST_PEOPLE, MOST_PEOPLE);
            System.arraycopy(line.wants, 0, pages, page + 1 + 2 * MOST_PEOPLE, MOST_PEOPLE);
            System.arraycopy(line.waited, 0, pages, page + 1 + 3 * MOST_PEOPLE, MOST_PEOPLE);
            kept++;
        }

        /** Makes the LINE what it was ahead of the latest ACT, which is kept no more. */
        void takeBack(Line line) {
            if (kept > 0) {
                kept--;
                int page = pageOf(kept);
                line.minute = pages[page];
                System.arraycopy(pages, page + 1, line.at, 0, MOST_PEOPLE);
                System.arraycopy(pages, page + 1 + MOST_PEOPLE, line.faith, 0, MOST_PEOPLE);
                System.arraycopy(pages, page + 1 + 2 * MOST_PEOPLE, line.wants, 0, MOST_PEOPLE);
                System.arraycopy(pages, page + 1 + 3 * MOST_PEOPLE, line.waited, 0, MOST_PEOPLE);
            }
        }

        private int pageOf(int act) {
            return (oldest + act) % MOST_ACTS * PAGE;
        }
    }

    /** An ASK: what a WAITER tells of himself, and THE TRACE. */
    private static final class Asked {
        int number;
        int faith;
        int waited;
        private int begun;
        private final int[] bodies = new int[MOST_TRACE];

        void beginAbout(int number, int faith, int waited) {
            this.number = number;
            this.faith = faith;
            this.waited = waited;
            begun = 0;
        }

        void leave(int body) {
            if (begun < MOST_TRACE) {
                bodies[begun] = body;
                begun++;
            }
        }

        int bodyAt(int i) {
            return isWithin(i, 0, begun - 1) ? bodies[i] : NONE;
        }
    }

    /** The KINDS of WAITERS; which BODY an ASK begins is left to how Java finds a method. */
    private abstract static class Waiter {
        /** By how much one HOPES, others being with him at his STOP. */
        abstract int hopesBy(int faith, int waited, int others);

        int askSize(Asked asked) {
            asked.leave(10);
            return asked.faith;
        }

        int askMark(Asked asked) {
            asked.leave(20);
            return asked.number;
        }
    }

    private static class Plain extends Waiter {
        int hopesBy(int faith, int waited, int others) {
            return faith;
        }

        int askSize(Asked asked) {
            asked.leave(11);
            return super.askSize(asked) + askMark(asked);
        }

        int askMark(Asked asked) {
            asked.leave(21);
            return super.askMark(asked) + asked.waited;
        }
    }

    private static final class Crowd extends Plain {
        int hopesBy(int faith, int waited, int others) {
            return faith + others;
        }

        int askSize(Asked asked) {
            asked.leave(12);
            return -super.askSize(asked);
        }

        int askMark(Asked asked) {
            asked.leave(24);
            return 2 * super.askMark(asked);
        }
    }

    private static final class Doubter extends Plain {
        int hopesBy(int faith, int waited, int others) {
            return faith > waited ? faith - waited : 0;
        }

        int askMark(Asked asked) {
            asked.leave(22);
            return super.askMark(asked) - 1000;
        }
    }

    private static class Child extends Waiter {
        int hopesBy(int faith, int waited, int others) {
            return 3;
        }

        int askSize(Asked asked) {
            asked.leave(13);
            return super.askSize(asked) - 100;
        }

        int askMark(Asked asked) {
            asked.leave(23);
            return super.askMark(asked) - askSize(asked);
        }
    }

    private static final class Saint extends Child {
        int hopesBy(int faith, int waited, int others) {
            return others == 0 ? 13 : 3;
        }

        int askSize(Asked asked) {
            asked.leave(14);
            return 2 * super.askSize(asked);
        }
    }
}
