import java.lang.reflect.Method;
import java.lang.reflect.Modifier;
import java.util.ArrayList;
import java.util.Comparator;
import java.util.List;
import java.util.Random;

/** All promises: drawn runs of calls, each answer laid beside the one of Model; no call may throw. */
public final class ModelTest {
    private static final int MOST_CALLS = 512;
    private static final int SHOWN = 12;
    private static final String SORTS = "pcdks";
    private static final int[] WILD = {Integer.MIN_VALUE, -1000001, -2, -1, 0, 1, 2, 3, 5, 6, 7, 8, 16, 17, 21, 24, 25, 40, 41, 60, 61,
        100, 255, 256, 999999, 1000000, Integer.MAX_VALUE};

    private final Random random;
    private final List<Method> face;
    private final TramFaith x = new TramFaith();
    private final Model model = new Model();
    private final List<String> calls = new ArrayList<>();
    private boolean wrong;

    private ModelTest(long seed, List<Method> face) {
        random = new Random(seed);
        this.face = face;
    }

    /** The number of runs can be told, and the first one's seed. */
    public static void main(String[] args) {
        int runs = args.length > 0 ? Integer.parseInt(args[0]) : 400;
        int first = args.length > 1 ? Integer.parseInt(args[1]) : 1;
        List<Method> face = new ArrayList<>();
        for (Method m : TramFaith.class.getDeclaredMethods()) {
            if (Modifier.isPublic(m.getModifiers())) {
                face.add(m);
            }
        }
        // the machine may tell methods in any order, and a seed must always draw the same run
        face.sort(Comparator.comparing(Method::getName));
        int failed = 0;
        long compared = 0;
        for (int seed = first; seed < first + runs; seed++) {
            ModelTest run = new ModelTest(seed, face);
            run.play(seed);
            compared += run.calls.size();
            failed += run.wrong ? 1 : 0;
        }
        System.out.println("ModelTest: " + runs + " runs, " + compared + " answers, " + failed + " runs not as due");
        if (failed != 0 || runs < 1) {
            System.exit(1);
        }
    }

    private void play(long seed) {
        if (random.nextInt(8) != 0) {
            typeLine();
        }
        while (!wrong && calls.size() < MOST_CALLS) {
            int draw = random.nextInt(100);
            if (draw < 2) {
                typeLine();
            } else if (draw < 6) {
                tellTrams();
            } else {
                callAny();
            }
        }
        if (wrong) {
            System.out.println("seed " + seed + ", call " + calls.size() + ":");
            calls.subList(Math.max(0, calls.size() - SHOWN), calls.size()).forEach(System.out::println);
        }
    }

    private int call(String name, int... args) {
        for (Method m : face) {
            if (m.getName().equals(name)) {
                return call(m, args);
            }
        }
        throw new IllegalStateException("the face has no " + name);
    }

    private int call(Method m, int[] args) {
        if (wrong || calls.size() >= MOST_CALLS) {
            return 0;
        }
        int due = model.answer(m.getName(), args);
        Object[] boxed = new Object[args.length];
        StringBuilder told = new StringBuilder(m.getName()).append('(');
        for (int i = 0; i < args.length; i++) {
            boxed[i] = args[i];
            told.append(i == 0 ? "" : ", ").append(args[i]);
        }
        try {
            int got = (Integer) m.invoke(x, boxed);
            wrong = got != due;
            told.append(") answered ").append(got).append(wrong ? ", due is " + due : "");
        } catch (ReflectiveOperationException thrown) {
            wrong = true;
            told.append(") threw ").append(thrown.getCause());
        }
        calls.add(told.toString());
        return due;
    }

    private void typeLine() {
        StringBuilder text = new StringBuilder();
        int stops = 2 + random.nextInt(7);
        int bound = random.nextInt(3) == 0 ? random.nextInt(41) : random.nextInt(12);
        text.append('t').append(stops).append(',').append(bound).append(';');
        int people = random.nextInt(20) == 0 ? 7 : random.nextInt(7);
        // doubters in each other's way make the longest runs
        String sorts = random.nextInt(3) == 0 ? "dddds" : SORTS;
        for (int p = 0; p < people; p++) {
            text.append(sorts.charAt(random.nextInt(5))).append(random.nextInt(stops)).append(',')
                .append(random.nextInt(21)).append(',').append(random.nextInt(stops)).append(';');
        }
        if (random.nextInt(4) == 0) {
            disturb(text);
        }
        for (int i = 0; i < text.length(); i++) {
            call("feed", text.charAt(i));
        }
        call("line");
        call("fault");
    }

    private void disturb(StringBuilder text) {
        String signs = "0123456789,;tpcdksxT ?" + (char) 0 + (char) 255;
        int times = 1 + random.nextInt(2);
        for (int k = 0; k < times && text.length() > 0; k++) {
            int at = random.nextInt(text.length());
            char sign = signs.charAt(random.nextInt(signs.length()));
            switch (random.nextInt(4)) {
                case 0 -> text.setCharAt(at, sign);
                case 1 -> text.insert(at, sign);
                case 2 -> text.deleteCharAt(at);
                default -> text.setLength(at);
            }
        }
    }

    /** Lays where THE TRAM will be in a row, so that fits and bounds have something that fits. */
    private void tellTrams() {
        int row = random.nextInt(8);
        int n = 1 + random.nextInt(16);
        int from = random.nextInt(3);
        call("row", row, random.nextInt(3), from + n);
        for (int k = 0; k < n; k++) {
            int stop = call("tram", k);
            call("set", row, from + k, stop == Check.NONE ? -1 : stop);
        }
        call("bounds", row, from, n);
        int person = random.nextInt(6);
        call("fits", person, row, from, n, 0);
        call("fits", person, row, from, n, 1);
        call("status");
    }

    private void callAny() {
        Method m = face.get(random.nextInt(face.size()));
        boolean isDear = m.getName().equals("walkers") && random.nextInt(4) != 0;
        boolean isEnd = m.getName().equals("line") && random.nextInt(4) != 0;
        if (isDear || isEnd) {
            return;
        }
        int[] args = new int[m.getParameterCount()];
        for (int i = 0; i < args.length; i++) {
            args[i] = draw(m.getName(), i);
        }
        call(m, args);
    }

    private int draw(String name, int i) {
        if (random.nextInt(25) == 0) {
            return WILD[random.nextInt(WILD.length)];
        }
        String place = name + i;
        return switch (place) {
            case "row1" -> random.nextInt(3);
            case "row2", "set1", "copy4" -> random.nextInt(random.nextInt(2) == 0 ? 6 : 41);
            case "set2" -> random.nextInt(3) == 0 ? random.nextInt() : random.nextInt(9) - 1;
            case "feed0" -> random.nextInt(256);
            case "minutes0" -> 1 + random.nextInt(random.nextInt(3) == 0 ? 24 : 3);
            case "preach1" -> random.nextInt(21);
            case "where1", "tram0", "there0", "walkers0", "drawn0" -> random.nextInt(random.nextInt(2) == 0 ? 10 : 61);
            case "drawn1" -> 1 + random.nextInt(999999);
            case "rain1" -> random.nextInt(11);
            case "fits3", "bounds2" -> 1 + random.nextInt(random.nextInt(2) == 0 ? 3 : 16);
            case "fits2", "bounds1", "copy1", "copy3" -> random.nextInt(5);
            case "person1", "count0", "trace0", "wish1", "stop0", "call0", "rain0", "as1" -> random.nextInt(8);
            case "walk1", "stop1", "call1", "go1", "walkers1", "fits4", "rain2", "drawn2", "image0", "restore0", "ask1" ->
                random.nextInt(2);
            default -> random.nextInt(6);
        };
    }
}
