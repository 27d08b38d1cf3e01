import java.util.Map;
import java.util.Set;

/** The boundary tests of one promise: a test for each sentence that names a boundary, by its own name. */
final class Edge {
    /** A LINE, and all that an object can hold, the tape being empty. 5 STOPS, 5 PEOPLE. */
    static final String LIVELY = "row(0,0,3) set(0,0,2) set(0,2,-1) row(1,1,4) set(1,1,2) row(2,2,40) set(2,39,2) "
        + "row(4,0,0) t2,1;k0,3,1; minutes(1) image(1) !t9; t5,4;p0,9,4;c2,5,0;d2,9,1;k4,1,0;s3,2,3; minutes(2) "
        + "preach(0,7) walk(3,0) wish(2,4) image(0) minutes(1) ask(1,0) set(0,3,0)";
    /** The same with bytes on the tape, so that whatever a call changes shows. */
    static final String RICH = LIVELY + " <t3,2;k1,5,0;";
    /** All that there is room for: 8 STOPS, 6 PEOPLE. */
    static final String CROWDED = "t8,3;p0,20,7;c7,0,0;d3,9,4;k5,1,5;s6,2,6;p0,0,0; minutes(3) row(0,0,16) "
        + "row(7,2,40) image(0)";
    /** As little as there can be: 2 STOPS, nobody. */
    static final String EMPTY = "t2,0;";
    /** Doubters in each other's way: 1 is THERE behind 60 MINUTES, the last of all. */
    static final String BEHIND_60 = "t7,3;s2,18,6;d6,16,3;d1,12,2;d4,19,0;d1,18,0;d3,18,1;";
    /** The same, 4 being THERE behind 61 MINUTES. */
    static final String BEHIND_61 = "t8,2;d2,19,4;d6,20,6;k5,5,0;d3,17,7;d7,7,5;d1,17,6;";
    /** A new object. */
    static final String NEW = "";

    private static final int DRAWN_SCENES = 150;
    /** No call, with what comes ahead of it and behind it, takes more. */
    private static final int FOR_ONE_ROUND = 120;

    private final String promise;
    private String sentence = "";
    private int tests;
    private int asked;
    private int wrong;

    Edge(String promise) {
        this.promise = promise;
    }

    /** Begins the test of a sentence of the document. */
    void test(String told) {
        sentence = told;
        tests++;
    }

    /** On a new object behind a scene: calls in their order, each with what is due, as {@code walk(0,1) = 1}. */
    void answers(String scene, String... calls) {
        Player player = new Player(scene);
        String before = scene;
        for (String call : calls) {
            due(before, callOf(call), player.call(callOf(call)), dueOf(call));
            before = before + " " + callOf(call);
        }
    }

    /** Each call on an object of its own: it answers so, and all other calls answer as before it. */
    void stays(String scene, String... calls) {
        for (String call : calls) {
            stay(scene, callOf(call), dueOf(call), Set.of());
        }
    }

    /** As stays, # being each of these numbers. */
    void each(String scene, String call, int... numbers) {
        for (int number : numbers) {
            stays(scene, call.replace("#", Integer.toString(number)));
        }
    }

    /** A tape has a FAULT at a place: it is empty then, the FAULT is told, and all else stays. */
    void faults(String scene, String bytes, int place, int number) {
        Player player = new Player(scene);
        StringBuilder fed = new StringBuilder(scene);
        for (char c : bytes.toCharArray()) {
            fed.append(" feed(").append((int) c).append(')');
        }
        stay(fed.toString(), "line()", -1000100 - place, Set.of("count(7)", "fault()", "line() "));
        player.feed(bytes);
        due(scene + " '" + bytes + "'", "line()", player.call("line()"), -1000100 - place);
        due(scene + " '" + bytes + "'", "fault()", player.call("fault()"), number);
        due(scene + " '" + bytes + "'", "count(7)", player.call("count(7)"), 0);
    }

    /**
     * Calls of one name on drawn scenes: each answer, and all that is told behind it, must be what Model answers.
     * The sentences of the promise stand in tests of their own; this one finds what nobody thought of.
     */
    void beside(String name) {
        test("drawn LINES, beside Model");
        for (int seed = 1; seed <= DRAWN_SCENES; seed++) {
            Twin twin = new Twin(seed * 1000003L);
            twin.playScene();
            for (int k = 0; k < 4; k++) {
                twin.callAsMeant(name);
            }
            twin.lookAround();
            while (twin.hasRoomFor(FOR_ONE_ROUND)) {
                twin.callAsMeant(name);
                twin.callWild(name);
                twin.lookAround();
            }
            asked += twin.answers();
            if (twin.differs()) {
                fail("seed " + seed, twin.told());
            }
        }
    }

    void due(String scene, String call, long got, long want) {
        asked++;
        if (got != want) {
            fail(scene, call + " answered " + got + ", due is " + want);
        }
    }

    /** Ends the tests of this promise; by exit code 1 if an answer was wrong. */
    void end() {
        System.out.println(promise + ": " + tests + " tests, " + asked + " answers, " + wrong + " not as due");
        if (wrong != 0 || asked == 0) {
            System.exit(1);
        }
    }

    private void stay(String scene, String call, int want, Set<String> but) {
        Player player = new Player(scene);
        Map<String, Integer> before = Witness.look(player);
        int status = player.call("status()");
        due(scene, call, player.call(call), want);
        due(scene + " " + call, "status()", player.call("status()"), statusBy(call, want, status));
        same(scene, call, before, Witness.look(player), but);
        for (String way : Witness.WAYS) {
            Player other = new Player(scene);
            other.call(call);
            same(scene, call, Witness.probe(new Player(scene), way), Witness.probe(other, way), but);
        }
    }

    /** What is refused leaves status(), a FINDING becomes it, and a call with a ROW that has none makes it 0. */
    private static int statusBy(String call, int answer, int status) {
        if (answer <= -1000011 && answer >= -1000015) {
            return -1000010 - answer;
        }
        boolean isRefused = answer <= -1000001 && answer >= -1000003;
        boolean isOfRows = call.matches("(row|set|copy|drop|fits|bounds|as)\\(.*");
        return isOfRows && !isRefused ? 0 : status;
    }

    private void same(String scene, String call, Map<String, Integer> was, Map<String, Integer> is, Set<String> but) {
        asked += was.size();
        String difference = Witness.difference(was, is, but);
        if (!difference.isEmpty()) {
            fail(scene, call + " changed:" + difference);
        }
    }

    private void fail(String scene, String told) {
        wrong++;
        System.out.println(promise + ", '" + sentence + "', behind '" + scene + "': " + told);
    }

    private static String callOf(String call) {
        return call.substring(0, call.lastIndexOf('=')).trim();
    }

    private static int dueOf(String call) {
        return Player.numberOf(call.substring(call.lastIndexOf('=') + 1));
    }
}
