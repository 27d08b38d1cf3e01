import java.lang.reflect.Method;
import java.lang.reflect.Modifier;
import java.util.ArrayList;
import java.util.List;
import java.util.TreeMap;

/** An object and Model, the document's second writing: both get the same calls, and each answer must be the same. */
final class Twin {
    private static final int SHOWN = 12;

    private final Draws draws;
    private final Player player = new Player("");
    private final Model model = new Model();
    private final List<String> calls = new ArrayList<>();
    private boolean differs;

    Twin(long seed) {
        draws = new Draws(seed);
    }

    /** The names of the public face, each with how many numbers it is given, in an order that is always the same. */
    static TreeMap<String, Integer> face() {
        TreeMap<String, Integer> face = new TreeMap<>();
        for (Method method : TramFaith.class.getDeclaredMethods()) {
            if (Modifier.isPublic(method.getModifiers())) {
                face.put(method.getName(), method.getParameterCount());
            }
        }
        return face;
    }

    boolean differs() {
        return differs;
    }

    int answers() {
        return calls.size();
    }

    /** The latest calls; of the last one the answer differs, or it threw. */
    String told() {
        return String.join("\n", calls.subList(Math.max(0, calls.size() - SHOWN), calls.size()));
    }

    /** Whether so many calls more may be made; behind the first that differs none may. */
    boolean hasRoomFor(int more) {
        return !differs && player.callsLeft() >= more;
    }

    /** What is due. Behind the object's last call, and behind an answer that differs, nothing is called. */
    int call(String name, int... numbers) {
        if (!hasRoomFor(1)) {
            return 0;
        }
        int due = model.answer(name, numbers);
        StringBuilder text = new StringBuilder(name).append('(');
        for (int i = 0; i < numbers.length; i++) {
            text.append(i == 0 ? "" : ",").append(numbers[i]);
        }
        text.append(')');
        String told;
        try {
            int got = player.call(text.toString());
            differs = got != due;
            told = " answered " + got + (differs ? ", due is " + due : "");
        } catch (IllegalStateException thrown) {
            differs = true;
            told = " threw " + thrown.getCause();
        }
        calls.add(text + told);
        return due;
    }

    void type(String text) {
        for (char c : text.toCharArray()) {
            call("feed", c);
        }
    }

    void readTape() {
        type(draws.tape());
        call("line");
        call("fault");
    }

    /** Lays where THE TRAM will be in a ROW, so that fits and bounds have something that fits. */
    void tellTrams(int most) {
        int row = draws.below(8);
        int n = 1 + draws.below(most);
        int from = draws.below(3);
        call("row", row, draws.below(3), from + n);
        for (int k = 0; k < n; k++) {
            int stop = call("tram", k);
            call("set", row, from + k, stop == Check.NONE ? -1 : stop);
        }
        // now and then one of them is another, so that less fits
        if (draws.oneOf(4)) {
            call("set", row, from + draws.below(n), draws.below(9) - 1);
        }
        call("bounds", row, from, n);
        int person = draws.below(6);
        call("fits", person, row, from, n, 0);
        call("fits", person, row, from, n, 1);
        call("status");
    }

    /** A LINE or none, and behind it whatever an object can hold. */
    void playScene() {
        if (draws.oneOf(3)) {
            readFault();
        }
        if (!draws.oneOf(12)) {
            type(draws.line());
            call("line");
        }
        if (draws.oneOf(8)) {
            waitLong();
        }
        for (int k = draws.below(12); k > 0; k--) {
            callDrawn(List.of("minutes", "minutes", "walk", "preach", "wish", "wish", "undo", "image", "restore")
                .get(draws.below(9)));
        }
        if (draws.oneOf(2)) {
            tellTrams(8);
        }
        if (draws.oneOf(4)) {
            makeRows(8);
        }
        for (String name : List.of("ask", "as", "row", "set", "feed", "image")) {
            if (draws.oneOf(2)) {
                callDrawn(name);
            }
        }
    }

    private void readFault() {
        type(List.of("", "t9", "t2,0;x", "t444", "t2,0;p0,21").get(draws.below(5)));
        call("line");
    }

    /** The first ROWS, some of one LANE and some of another, with few ITEMS. */
    private void makeRows(int many) {
        for (int row = 0; row < many; row++) {
            int n = draws.below(6);
            call("row", row, draws.below(2), n);
            if (n > 0) {
                call("set", row, draws.below(n), draws.below(4));
            }
        }
    }

    /** What a ROW has is seen by what it tells: by which BOUNDS THE TRAM is where an ITEM says. */
    private void lookAtRows() {
        for (int row = 0; row < 6; row++) {
            for (int i = 0; i <= 5; i++) {
                call("bounds", row, i, 1);
            }
        }
    }

    private void waitLong() {
        int times = draws.oneOf(3) ? 41 : 5;
        for (int k = 0; k < times; k++) {
            call("minutes", 24);
        }
        // from 984 on the last of all MINUTES are near
        if (draws.oneOf(2)) {
            call("minutes", 15);
        }
    }

    void callDrawn(String name) {
        call(name, draws.arguments(name, face().get(name)));
    }

    void callWild(String name) {
        call(name, draws.wild(face().get(name)));
    }

    /** A call of that name; a tape is typed ahead of line, a ROW told ahead of those that look at it. */
    void callAsMeant(String name) {
        if (name.equals("line") || name.equals("fault")) {
            type(draws.tape());
        }
        if (name.equals("fault")) {
            call("line");
        }
        if (name.equals("trace")) {
            callDrawn("ask");
        }
        if (name.equals("fits") || name.equals("bounds")) {
            tellTrams(16);
            callDrawn("as");
        }
        boolean isOfRows = List.of("row", "set", "copy", "drop").contains(name);
        if (isOfRows && draws.oneOf(2)) {
            makeRows(6);
        }
        callDrawn(name);
        if (isOfRows) {
            lookAtRows();
        }
    }

    /** All that the object tells of itself at once. */
    void lookAround() {
        for (int what = 0; what <= 7; what++) {
            call("count", what);
        }
        for (int p = 0; p < 6; p++) {
            for (int what = 0; what <= 4; what++) {
                call("person", p, what);
            }
        }
        call("tram", 0);
        call("there", 60);
        call("fault");
        call("status");
        call("trace", 0);
        call("trace", 5);
    }

    /** Any call of the face, now and then a LINE or a ROW that is told. */
    void callAny() {
        int draw = draws.below(100);
        if (draw < 2) {
            readTape();
            return;
        }
        if (draw < 6) {
            tellTrams(16);
            return;
        }
        List<String> names = new ArrayList<>(face().keySet());
        String name = names.get(draws.below(names.size()));
        boolean isDear = name.equals("walkers") && !draws.oneOf(4);
        boolean isEnd = name.equals("line") && !draws.oneOf(4);
        if (!isDear && !isEnd) {
            callDrawn(name);
        }
    }
}
