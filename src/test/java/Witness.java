import java.util.LinkedHashMap;
import java.util.List;
import java.util.Map;
import java.util.Set;

/** All that an object tells of itself, call by call; status() is left out, since it is looked at by itself. */
final class Witness {
    /** Ways to look that change the object, so that each needs one of its own. */
    static final List<String> WAYS = List.of("rows", "past", "tape", "image 0", "image 1");

    private final Player player;
    private final Map<String, Integer> seen = new LinkedHashMap<>();

    private Witness(Player player) {
        this.player = player;
    }

    /** What the calls answer that change nothing. */
    static Map<String, Integer> look(Player player) {
        Witness witness = new Witness(player);
        witness.lookAround("");
        return witness.seen;
    }

    /** What the calls answer that change something, and what is told then. */
    static Map<String, Integer> probe(Player player, String way) {
        Witness witness = new Witness(player);
        switch (way) {
            case "rows" -> witness.lookAtRows();
            case "past" -> witness.lookBack();
            case "tape" -> witness.note("line() ", "line()");
            case "image 0" -> witness.note("restore(0) ", "restore(0)");
            default -> witness.note("restore(1) ", "restore(1)");
        }
        if (!way.equals("rows") && !way.equals("past")) {
            witness.lookAround("then ");
        }
        return witness.seen;
    }

    /** The calls whose answers differ, those whose names end so left out. */
    static String difference(Map<String, Integer> was, Map<String, Integer> is, Set<String> but) {
        StringBuilder told = new StringBuilder();
        for (Map.Entry<String, Integer> one : was.entrySet()) {
            String name = one.getKey();
            boolean isLeftOut = but.stream().anyMatch(name::endsWith);
            if (!isLeftOut && !one.getValue().equals(is.get(name))) {
                told.append(' ').append(name).append(" was ").append(one.getValue())
                    .append(", is ").append(is.get(name)).append(';');
            }
        }
        return was.size() == is.size() ? told.toString() : told + " more or fewer calls";
    }

    private void note(String name, String call) {
        seen.put(name, player.call(call));
    }

    private void lookAround(String when) {
        for (int what = -1; what <= 8; what++) {
            note(when + "count(" + what + ")", "count(" + what + ")");
        }
        int stops = seen.get(when + "count(1)");
        int people = seen.get(when + "count(2)");
        for (int p = 0; p <= people; p++) {
            for (String call : List.of("person(#,0)", "person(#,1)", "person(#,2)", "person(#,3)", "person(#,4)",
                    "kind(#)", "when(#)", "where(#,2)", "go(#,0)")) {
                String one = call.replace("#", Integer.toString(p));
                note(when + one, one);
            }
        }
        for (int s = 0; s <= stops; s++) {
            for (String call : List.of("stop(#,0)", "stop(#,1)", "call(#,0)", "rain(#,3,0)")) {
                String one = call.replace("#", Integer.toString(s));
                note(when + one, one);
            }
        }
        for (String call : List.of("tram(0)", "tram(4)", "there(6)", "all()", "never()", "holding()", "walkers(9,1)",
                "drawn(9,77,0)", "fault()", "trace(0)", "trace(1)", "trace(2)", "trace(3)", "trace(4)", "trace(5)",
                "trace(6)")) {
            note(when + call, call);
        }
    }

    /** ITEMS as far as a row that is told shows them, LANES by what is left of a large number, sizes. */
    private void lookAtRows() {
        for (int row = 0; row < 8; row++) {
            for (int i : new int[] {0, 1, 2, 3, 39}) {
                String one = "bounds(" + row + "," + i + ",1)";
                note(one, one);
            }
            for (String call : List.of("fits(0,#,0,1,0)", "set(#,0,70001)", "drop(#)")) {
                String one = call.replace("#", Integer.toString(row));
                note(one, one);
            }
        }
    }

    private void lookBack() {
        int left = 1;
        for (int k = 0; left > 0; k++) {
            left = player.call("undo()");
            seen.put("undo() " + k, left);
            int people = player.call("count(2)");
            note("minute behind undo() " + k, "count(3)");
            for (int p = 0; p < people && player.callsLeft() > 100; p++) {
                for (int what = 0; what < 4; what++) {
                    note("person(" + p + "," + what + ") behind undo() " + k, "person(" + p + "," + what + ")");
                }
            }
        }
    }
}
