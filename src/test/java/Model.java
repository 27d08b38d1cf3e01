import java.util.ArrayDeque;
import java.util.ArrayList;
import java.util.Arrays;
import java.util.Deque;
import java.util.List;
import java.util.TreeMap;
import java.util.function.UnaryOperator;
import java.util.regex.Matcher;
import java.util.regex.Pattern;
import java.util.stream.IntStream;

/**
 * The document once more, written for itself and without a thought for speed: states that never
 * change, texts cut into tokens first, asks by a table. ModelTest lays it beside TramFaith.
 */
final class Model {
    record Person(int kind, int at, int faith, int wants, int waited) {
        Person toStop(int stop) {
            return new Person(kind, stop, faith, wants, 0);
        }

        Person withFaith(int v) {
            return new Person(kind, at, v, wants, waited);
        }

        Person withWish(int stop) {
            return new Person(kind, at, faith, stop, waited);
        }

        Person ofKind(int k) {
            return new Person(k, at, faith, wants, waited);
        }

        boolean there() {
            return at == wants;
        }
    }

    record Line(int stops, int bound, int minute, List<Person> people) {
        Line with(int p, UnaryOperator<Person> change) {
            List<Person> changed = new ArrayList<>(people);
            changed.set(p, change.apply(changed.get(p)));
            return new Line(stops, bound, minute, changed);
        }

        Line withBound(int b) {
            return new Line(stops, b, minute, people);
        }

        int hopeOf(int p) {
            Person one = people.get(p);
            int others = (int) people.stream().filter(q -> q.at == one.at).count() - 1;
            return switch (one.kind) {
                case 1 -> one.faith;
                case 2 -> one.faith + others;
                case 3 -> Math.max(0, one.faith - one.waited);
                case 4 -> 3;
                default -> others > 0 ? 3 : 13;
            };
        }

        int hopeAt(int stop, int silent) {
            return IntStream.range(0, people.size())
                .filter(p -> people.get(p).at == stop && (silent >> p & 1) == 0).map(this::hopeOf).sum();
        }

        int tram(int silent) {
            int most = IntStream.range(0, stops).map(s -> hopeAt(s, silent)).max().orElse(0);
            if (most < bound || most <= 0) {
                return -1;
            }
            return IntStream.range(0, stops).filter(s -> hopeAt(s, silent) == most).findFirst().orElse(-1);
        }

        Line next(int walking) {
            int tram = tram(0);
            List<Person> then = new ArrayList<>();
            for (int p = 0; p < people.size(); p++) {
                Person one = people.get(p);
                boolean walks = (walking >> p & 1) == 1 && !one.there();
                boolean rides = one.at == tram && !one.there();
                int step = Integer.signum(one.wants - one.at);
                then.add(walks || rides
                    ? new Person(one.kind, one.at + step, one.faith, one.wants, 0)
                    : new Person(one.kind, one.at, one.faith, one.wants, Math.min(99, one.waited + 1)));
            }
            return new Line(stops, bound, minute + 1, then);
        }

        Line in(int d, int walking) {
            Line then = this;
            for (int k = 0; k < d; k++) {
                then = then.next(walking);
            }
            return then;
        }

        int there() {
            return IntStream.range(0, people.size()).filter(p -> people.get(p).there()).map(p -> 1 << p).sum();
        }

        int everybody() {
            return (1 << people.size()) - 1;
        }

        int firstAll(int who, int walking, int most) {
            Line then = this;
            for (int d = 0; d <= most; d++) {
                if ((then.there() & who) == who) {
                    return d;
                }
                then = then.next(walking);
            }
            return Check.NONE;
        }

        boolean goesAs(int[] row, int i, int n) {
            Line then = this;
            for (int k = 0; k < n; k++) {
                if (then.tram(0) != row[i + k]) {
                    return false;
                }
                then = then.next(0);
            }
            return true;
        }
    }

    private final int[][] rows = new int[8][];
    private final int[] lanes = new int[8];
    private final StringBuilder tape = new StringBuilder();
    private Line line;
    private final Deque<Line> past = new ArrayDeque<>();
    private final Line[] images = new Line[2];
    private final List<Integer> trace = new ArrayList<>();
    private int fault;
    private int status;

    /** What the call of that name answers. */
    int answer(String name, int[] a) {
        return switch (name) {
            case "row", "set", "copy", "drop", "fits", "bounds", "as" -> noting(name, a);
            case "feed", "line", "fault" -> ofTexts(name, a);
            case "minutes", "walk", "preach", "wish", "undo" -> ofActs(name, a);
            case "person", "stop", "kind", "ask", "trace", "count", "status" -> ofState(name, a);
            case "image", "restore" -> ofImages(name, a[0]);
            default -> foretold(name, a);
        };
    }

    private static boolean in(int v, int least, int most) {
        return least <= v && v <= most;
    }

    private boolean isPerson(int p) {
        return line != null && in(p, 0, line.people.size() - 1);
    }

    private boolean isStop(int s) {
        return line != null && in(s, 0, line.stops - 1);
    }

    private int noting(String name, int[] a) {
        int answer = switch (name) {
            case "row" -> row(a[0], a[1], a[2]);
            case "set" -> set(a[0], a[1], a[2]);
            case "copy" -> copy(a[0], a[1], a[2], a[3], a[4]);
            case "drop" -> drop(a[0]);
            case "fits" -> fits(a[0], a[1], a[2], a[3], a[4]);
            case "bounds" -> bounds(a[0], a[1], a[2]);
            default -> as(a[0], a[1]);
        };
        // what set has put in a row may look like a refusal or a finding
        boolean isPut = name.equals("set") && in(a[0], 0, 7) && rows[a[0]] != null && reaches(rows[a[0]], a[1], 1);
        if (isPut || !in(answer, Check.FULL, Check.BAD)) {
            status = !isPut && in(answer, Check.STORE, Check.NULL) ? -1000010 - answer : 0;
        }
        return answer;
    }

    private int row(int r, int lane, int n) {
        if (!in(r, 0, 7) || !in(lane, 0, 2) || n > 40) {
            return Check.BAD;
        }
        if (n < 0) {
            return Check.SIZE;
        }
        rows[r] = new int[n];
        lanes[r] = lane;
        return n;
    }

    private static boolean reaches(int[] row, long i, long n) {
        return i >= 0 && n >= 0 && i + n <= row.length;
    }

    private int set(int r, int i, int v) {
        if (!in(r, 0, 7)) {
            return Check.BAD;
        }
        if (rows[r] == null) {
            return Check.NULL;
        }
        if (!reaches(rows[r], i, 1)) {
            return Check.PLACE;
        }
        rows[r][i] = lanes[r] == 0 ? (byte) v : lanes[r] == 1 ? (short) v : v;
        return rows[r][i];
    }

    private int copy(int a, int i, int b, int j, int n) {
        if (!in(a, 0, 7) || !in(b, 0, 7)) {
            return Check.BAD;
        }
        if (rows[a] == null || rows[b] == null) {
            return Check.NULL;
        }
        if (lanes[a] != lanes[b]) {
            return Check.STORE;
        }
        if (!reaches(rows[a], i, n) || !reaches(rows[b], j, n)) {
            return Check.PLACE;
        }
        int[] ahead = Arrays.copyOfRange(rows[a], i, i + n);
        for (int k = 0; k < n; k++) {
            rows[b][j + k] = ahead[k];
        }
        return n;
    }

    private int drop(int r) {
        if (!in(r, 0, 7)) {
            return Check.BAD;
        }
        if (rows[r] == null) {
            return Check.NULL;
        }
        int had = rows[r].length;
        rows[r] = null;
        return had;
    }

    private int fits(int p, int r, int i, int n, int what) {
        if (!isPerson(p) || !in(r, 0, 7) || !in(n, 1, 16) || !in(what, 0, 1)) {
            return Check.BAD;
        }
        if (rows[r] == null) {
            return Check.NULL;
        }
        if (!reaches(rows[r], i, n)) {
            return Check.PLACE;
        }
        return what == 0
            ? IntStream.rangeClosed(0, 20).filter(f -> line.with(p, q -> q.withFaith(f)).goesAs(rows[r], i, n))
                .map(f -> 1 << f).sum()
            : IntStream.rangeClosed(1, 5).filter(k -> line.with(p, q -> q.ofKind(k)).goesAs(rows[r], i, n))
                .map(k -> 1 << k).sum();
    }

    private int bounds(int r, int i, int n) {
        if (line == null) {
            return Check.STATE;
        }
        if (!in(r, 0, 7) || !in(n, 1, 16)) {
            return Check.BAD;
        }
        if (rows[r] == null) {
            return Check.NULL;
        }
        if (!reaches(rows[r], i, n)) {
            return Check.PLACE;
        }
        return IntStream.rangeClosed(0, 29).filter(b -> line.withBound(b).goesAs(rows[r], i, n)).map(b -> 1 << b).sum();
    }

    /** The KIND that a KIND is by what it is told to be, too; -1 for a WAITER. */
    private static final int[] ABOVE = {-1, 0, 1, 1, 0, 4};

    private int as(int p, int kind) {
        if (!isPerson(p) || !in(kind, 0, 5)) {
            return Check.BAD;
        }
        for (int k = line.people.get(p).kind; k >= 0; k = ABOVE[k]) {
            if (k == kind) {
                return p;
            }
        }
        return Check.KIND;
    }

    private int ofTexts(String name, int[] a) {
        switch (name) {
            case "feed":
                if (!in(a[0], 0, 255)) {
                    return Check.BAD;
                }
                if (tape.length() == 100) {
                    return Check.FULL;
                }
                tape.append((char) a[0]);
                return tape.length();
            case "line":
                String text = tape.toString();
                tape.setLength(0);
                return read(text);
            default:
                return fault;
        }
    }

    private static final Pattern TOKEN = Pattern.compile("[a-z]|[0-9]+|[,;]|.", Pattern.DOTALL);
    private static final String LAW = "t#,#;";
    private static final String PERSON = "*#,#,#;";

    private int read(String text) {
        List<Integer> numbers = new ArrayList<>();
        List<Integer> kinds = new ArrayList<>();
        Matcher tokens = TOKEN.matcher(text);
        int k = 0;
        while (tokens.find()) {
            int why = faultOf(tokens.group(), k, numbers, kinds);
            if (why != 0) {
                fault = why;
                return -1000100 - tokens.start();
            }
            k++;
        }
        if (k < 5 || (k - 5) % 7 != 0) {
            fault = 1;
            return -1000100 - text.length();
        }
        List<Person> people = new ArrayList<>();
        for (int p = 0; p < kinds.size(); p++) {
            int from = 2 + 3 * p;
            people.add(new Person(kinds.get(p), numbers.get(from), numbers.get(from + 1), numbers.get(from + 2), 0));
        }
        line = new Line(numbers.get(0), numbers.get(1), 0, people);
        past.clear();
        return people.size();
    }

    private static int faultOf(String token, int k, List<Integer> numbers, List<Integer> kinds) {
        char wanted = k < 5 ? LAW.charAt(k) : PERSON.charAt((k - 5) % 7);
        if (wanted == '*') {
            int kind = token.length() == 1 ? "?pcdks".indexOf(token) : -1;
            if (kind < 1) {
                return 1;
            }
            kinds.add(kind);
            return kinds.size() > 6 ? 3 : 0;
        }
        if (wanted != '#') {
            return token.equals(String.valueOf(wanted)) ? 0 : 1;
        }
        if (!token.matches("[0-9]{1,2}")) {
            return 1;
        }
        int v = Integer.parseInt(token);
        boolean isTold = switch (k < 5 ? k : 5 + (k - 5) % 7) {
            case 1 -> in(v, 2, 8);
            case 3 -> in(v, 0, 40);
            case 8 -> in(v, 0, 20);
            default -> in(v, 0, numbers.get(0) - 1);
        };
        numbers.add(v);
        return isTold ? 0 : 2;
    }

    private void act(Line then) {
        past.addLast(line);
        if (past.size() > 24) {
            past.removeFirst();
        }
        line = then;
    }

    private int ofActs(String name, int[] a) {
        switch (name) {
            case "minutes":
                if (line == null) {
                    return Check.STATE;
                }
                if (!in(a[0], 1, 24)) {
                    return Check.BAD;
                }
                if (line.minute + a[0] > 999) {
                    return Check.FULL;
                }
                for (int k = 0; k < a[0]; k++) {
                    act(line.next(0));
                }
                return line.there();
            case "walk":
                return walk(a[0], a[1]);
            case "preach":
                if (!isPerson(a[0]) || !in(a[1], 0, 20)) {
                    return Check.BAD;
                }
                act(line.with(a[0], q -> q.withFaith(a[1])));
                return past.getLast().people.get(a[0]).faith;
            case "wish":
                if (!isPerson(a[0]) || !isStop(a[1])) {
                    return Check.BAD;
                }
                act(line.with(a[0], q -> q.withWish(a[1])));
                return past.getLast().people.get(a[0]).wants;
            default:
                if (past.isEmpty()) {
                    return Check.STATE;
                }
                line = past.removeLast();
                return past.size();
        }
    }

    private int walk(int p, int up) {
        if (!isPerson(p) || !in(up, 0, 1)) {
            return Check.BAD;
        }
        int to = line.people.get(p).at + 2 * up - 1;
        if (!isStop(to)) {
            return Check.STATE;
        }
        act(line.with(p, q -> q.toStop(to)));
        return to;
    }

    private int ofImages(String name, int k) {
        if (!in(k, 0, 1)) {
            return Check.BAD;
        }
        Line from = name.equals("image") ? line : images[k];
        if (from == null) {
            return Check.STATE;
        }
        if (name.equals("image")) {
            images[k] = from;
        } else {
            line = from;
            past.clear();
        }
        return 1;
    }

    private int ofState(String name, int[] a) {
        switch (name) {
            case "person":
                if (!isPerson(a[0]) || !in(a[1], 0, 4)) {
                    return Check.BAD;
                }
                Person one = line.people.get(a[0]);
                return List.of(one.at, one.faith, one.wants, one.waited, line.hopeOf(a[0])).get(a[1]);
            case "stop":
                if (!isStop(a[0]) || !in(a[1], 0, 1)) {
                    return Check.BAD;
                }
                return a[1] == 0 ? line.hopeAt(a[0], 0)
                    : IntStream.range(0, line.people.size()).filter(p -> line.people.get(p).at == a[0]).map(p -> 1 << p).sum();
            case "kind":
                return isPerson(a[0]) ? line.people.get(a[0]).kind : Check.BAD;
            case "ask":
                if (!isPerson(a[0]) || !in(a[1], 0, 1)) {
                    return Check.BAD;
                }
                trace.clear();
                return ask(a[1], line.people.get(a[0]).kind, a[0]);
            case "trace":
                return in(a[0], 0, Math.min(16, trace.size()) - 1) ? trace.get(a[0]) : Check.NONE;
            case "count":
                return count(a[0]);
            default:
                return status;
        }
    }

    private int count(int what) {
        return switch (what) {
            case 0 -> (int) Arrays.stream(rows).filter(r -> r != null).count();
            case 1 -> line == null ? 0 : line.stops;
            case 2 -> line == null ? 0 : line.people.size();
            case 3 -> line == null ? 0 : line.minute;
            case 4 -> line == null ? 0 : line.bound;
            case 5 -> line == null ? 0 : line.there();
            case 6 -> past.size();
            case 7 -> tape.length();
            default -> Check.BAD;
        };
    }

    /** The BODY told for a KIND, by ask and KIND; 0: none is told. */
    private static final int[][] BODIES = {{10, 11, 12, 0, 13, 14}, {20, 21, 24, 22, 23, 0}};

    private int ask(int what, int kind, int p) {
        int k = kind;
        while (BODIES[what][k] == 0) {
            k = ABOVE[k];
        }
        trace.add(BODIES[what][k]);
        Person one = line.people.get(p);
        return switch (BODIES[what][k]) {
            case 10 -> one.faith;
            case 11 -> ask(0, 0, p) + ask(1, one.kind, p);
            case 12 -> -ask(0, 1, p);
            case 13 -> ask(0, 0, p) - 100;
            case 14 -> ask(0, 4, p) * 2;
            case 20 -> p;
            case 21 -> ask(1, 0, p) + one.waited;
            case 22 -> ask(1, 1, p) - 1000;
            case 23 -> ask(1, 0, p) - ask(0, one.kind, p);
            default -> ask(1, 1, p) * 2;
        };
    }

    private int foretold(String name, int[] a) {
        boolean needsLine = List.of("tram", "there", "all", "never", "holding", "walkers", "drawn").contains(name);
        if (needsLine && line == null) {
            return Check.STATE;
        }
        return switch (name) {
            case "where" -> isPerson(a[0]) && in(a[1], 0, 60) ? line.in(a[1], 0).people.get(a[0]).at : Check.BAD;
            case "tram" -> {
                int stop = in(a[0], 0, 60) ? line.in(a[0], 0).tram(0) : Check.BAD;
                yield stop == -1 ? Check.NONE : stop;
            }
            case "there" -> in(a[0], 0, 60) ? line.in(a[0], 0).there() : Check.BAD;
            case "when" -> isPerson(a[0]) ? line.firstAll(1 << a[0], 0, 60) : Check.BAD;
            case "all" -> line.firstAll(line.everybody(), 0, 60);
            case "never" -> IntStream.range(0, line.people.size())
                .filter(p -> line.firstAll(1 << p, 0, 60) == Check.NONE).map(p -> 1 << p).sum();
            case "holding" -> IntStream.range(0, line.stops)
                .filter(s -> line.hopeAt(s, 0) >= line.bound && line.hopeAt(s, 0) > 0).map(s -> 1 << s).sum();
            case "call" -> call(a[0], a[1]);
            case "go" -> go(a[0], a[1]);
            case "walkers" -> walkers(a[0], a[1]);
            case "rain" -> rain(a[0], a[1], a[2]);
            default -> drawn(a[0], a[1], a[2]);
        };
    }

    private int call(int stop, int what) {
        if (!isStop(stop) || !in(what, 0, 1)) {
            return Check.BAD;
        }
        for (int more = 0; more <= 40; more++) {
            for (int p = 0; p < line.people.size(); p++) {
                int faith = line.people.get(p).faith + more;
                if (line.people.get(p).at == stop && line.with(p, q -> q.withFaith(faith)).tram(0) == stop) {
                    return what == 0 ? more : p;
                }
            }
        }
        return Check.NONE;
    }

    private int go(int p, int what) {
        if (!isPerson(p) || !in(what, 0, 1)) {
            return Check.BAD;
        }
        Person one = line.people.get(p);
        TreeMap<Integer, Integer> stopBySoonest = new TreeMap<>();
        for (int s = line.stops - 1; s >= 0; s--) {
            int stop = s;
            Line from = one.at == s ? line : line.with(p, q -> q.toStop(stop));
            int behind = from.firstAll(1 << p, 0, 60);
            if (s != one.wants && behind != Check.NONE) {
                stopBySoonest.put(behind, s);
            }
        }
        if (stopBySoonest.isEmpty()) {
            return Check.NONE;
        }
        return what == 0 ? stopBySoonest.firstEntry().getValue() : stopBySoonest.firstKey();
    }

    private int walkers(int d, int what) {
        if (!in(d, 0, 60) || !in(what, 0, 1)) {
            return Check.BAD;
        }
        int best = Check.NONE;
        for (int who = line.everybody(); who >= 0; who--) {
            boolean isFewer = best == Check.NONE || Integer.bitCount(who) <= Integer.bitCount(best);
            if (isFewer && line.firstAll(line.everybody(), who, d) != Check.NONE) {
                best = who;
            }
        }
        return what == 0 && best != Check.NONE ? Integer.bitCount(best) : best;
    }

    private int rain(int stop, int c, int what) {
        if (!isStop(stop) || !in(c, 0, 10) || !in(what, 0, 1)) {
            return Check.BAD;
        }
        int n = line.people.size();
        int above = 0;
        for (int silent = 0; silent < 1 << n; silent++) {
            int quiet = Integer.bitCount(silent);
            int ways = (int) Math.round(Math.pow(c, quiet) * Math.pow(10 - c, n - quiet));
            above += line.tram(silent) == stop ? ways : 0;
        }
        int below = (int) Math.round(Math.pow(10, n));
        for (int f : new int[] {2, 5}) {
            while (above % f == 0 && below % f == 0) {
                above /= f;
                below /= f;
            }
        }
        return what == 0 ? above : below;
    }

    private int drawn(int n, int seed, int what) {
        if (!in(n, 0, 60) || !in(seed, 1, 999999) || !in(what, 0, 1)) {
            return Check.BAD;
        }
        Line then = line;
        long x = seed;
        int anywhere = 0;
        for (int k = 0; k < n; k++) {
            x = Math.floorMod(Math.multiplyExact(x, 16807L), 2147483647L);
            if (!then.people.isEmpty()) {
                int faith = (int) (x % 21);
                then = then.with((int) (x % then.people.size()), q -> q.withFaith(faith));
            }
            anywhere += then.tram(0) < 0 ? 0 : 1;
            then = then.next(0);
        }
        return what == 0 ? then.there() : anywhere;
    }
}
