/** Promise 13, undo: The latest ACT is undone: how many can be undone yet. STATE: none. */
public final class Promise13UndoTest {
    private static final Edge edge = new Edge("Promise 13, undo");

    public static void main(String[] args) {
        edge.test("STATE: none");
        edge.stays(Edge.NEW, "undo() = STATE");
        edge.stays(Edge.EMPTY, "undo() = STATE");
        edge.stays("t2,0;p0,1,1; minutes(2) undo() undo()", "undo() = STATE");
        edge.stays("t2,0;p0,1,1; minutes(2) t2,0;p0,1,1;", "undo() = STATE");
        edge.stays("t2,0;p0,1,1; minutes(2) image(0) minutes(1) restore(0)", "undo() = STATE");
        edge.stays("t2,0;p0,1,1; walk(0,0) preach(0,21) wish(0,2) minutes(0)", "undo() = STATE");

        undoesEach();
        keepsTwentyFour();
        edge.beside("undo");
        edge.end();
    }

    private static void undoesEach() {
        edge.test("a MINUTE is undone: where one is, how long he has WAITED, the MINUTE");
        edge.answers("t3,0;p0,5,2;k1,0,0; minutes(2)", "undo() = 1", "count(3) = 1", "person(0,0) = 1",
            "person(1,0) = 1", "person(1,3) = 1", "undo() = 0", "person(0,0) = 0", "person(1,3) = 0", "count(3) = 0");
        edge.answers("t2,0;p0,1,0; minutes(24)*41 minutes(15)", "undo() = 23", "count(3) = 998", "person(0,3) = 99");
        edge.answers("t2,0;p0,1,0; minutes(24)*4 minutes(3)", "person(0,3) = 99", "undo() = 23", "person(0,3) = 98");

        edge.test("a walk is undone, with what he had WAITED");
        edge.answers("t3,40;p0,5,2; minutes(7) walk(0,1)", "undo() = 7", "person(0,0) = 0", "person(0,3) = 7",
            "count(3) = 7");

        edge.test("FAITH and what one WANTS are undone");
        edge.answers("t3,40;p0,5,2; preach(0,20) wish(0,0)", "undo() = 1", "person(0,2) = 2", "person(0,1) = 20",
            "undo() = 0", "person(0,1) = 5");

        edge.test("the latest first; an ACT behind it is the latest then");
        edge.answers("t3,40;p0,5,2; preach(0,6) preach(0,7) preach(0,8)", "undo() = 2", "person(0,1) = 7", "undo() = 1",
            "person(0,1) = 6", "preach(0,9) = 6", "count(6) = 2", "undo() = 1", "person(0,1) = 6", "undo() = 0",
            "person(0,1) = 5", "undo() = STATE");

        edge.test("undone is the ACT alone: ROWS, the tape, IMAGES, THE TRACE, the FAULT stay");
        edge.answers("t3,40;p0,5,2; preach(0,6) row(0,0,2) <ab image(0) ask(0,0)", "undo() = 0", "count(0) = 1",
            "count(7) = 2", "trace(0) = 11", "restore(0) = 1", "person(0,1) = 6", "line() = -1000100", "fault() = 1",
            "preach(0,7) = 6", "undo() = 0", "fault() = 1");
    }

    private static void keepsTwentyFour() {
        edge.test("24 are kept");
        edge.answers("t2,40;p0,0,1; minutes(24)", "count(6) = 24", "undo() = 23", "minutes(1) = 0", "count(6) = 24");
        Player player = new Player("t2,40;p0,0,1; minutes(24)");
        for (int left = 23; left >= 0; left--) {
            edge.due("24 MINUTES", "undo()", player.call("undo()"), left);
            edge.due("24 MINUTES", "count(3)", player.call("count(3)"), left);
        }
        edge.due("24 MINUTES", "undo()", player.call("undo()"), -1000002);

        edge.test("of more the oldest is forgotten");
        for (int acts = 25; acts <= 75; acts++) {
            forgets(acts);
        }
        edge.stays("t2,40;p0,0,1; preach(0,1) minutes(24) undo()*24", "undo() = STATE");
        edge.answers("t2,40;p0,0,1; preach(0,1) minutes(24) undo()*24", "person(0,1) = 1", "count(3) = 0",
            "preach(0,2) = 1", "count(6) = 1", "undo() = 0", "person(0,1) = 1");
        edge.answers("t2,40;p0,0,1; preach(0,1) minutes(23)", "count(6) = 24", "minutes(1) = 0", "count(6) = 24");
    }

    /** So many ACTS, each another FAITH: the latest 24 are undone, and what the one before them made is left. */
    private static void forgets(int acts) {
        Player player = new Player("t2,40;p0,20,1;");
        for (int k = 0; k < acts; k++) {
            player.call("preach(0," + k % 19 + ")");
        }
        String scene = acts + " ACTS";
        for (int k = 1; k <= 24; k++) {
            edge.due(scene, "undo()", player.call("undo()"), 24 - k);
            edge.due(scene, "person(0,1)", player.call("person(0,1)"), (acts - k - 1) % 19);
        }
        edge.due(scene, "undo()", player.call("undo()"), -1000002);
        edge.due(scene, "person(0,1)", player.call("person(0,1)"), (acts - 25) % 19);
    }
}
