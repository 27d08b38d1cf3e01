/**
 * Promise 37, status: Of the latest call with a ROW, or as(), that was not BAD, STATE, FULL: the number of its
 * FINDING; 0: it had none, or there was none.
 */
public final class Promise37StatusTest {
    private static final Edge edge = new Edge("Promise 37, status");
    private static final String ROWS = "t2,0;p0,5,1;k1,0,1; row(0,0,2) row(1,1,2) ";
    /** The latest FINDING, by itself: NULL, PLACE, KIND, SIZE, STORE. */
    private static final String[] FOUND = {"drop(7)", "set(0,2,0)", "as(0,4)", "row(0,0,-1)", "copy(0,0,1,0,1)"};

    public static void main(String[] args) {
        edge.test("0: there was none");
        edge.stays(Edge.NEW, "status() = 0");
        edge.stays("t2,0;p0,5,1; minutes(3) undo() <abc", "status() = 0");
        edge.answers(Edge.NEW, "row(8,0,0) = BAD", "bounds(0,0,1) = STATE", "as(0,0) = BAD", "status() = 0");

        tellsEach();
        leavesIt();
        edge.beside("status");
        edge.end();
    }

    private static void tellsEach() {
        edge.test("the number of its FINDING, of each call that can have one");
        status("row(0,0,-1)", 4);
        status("set(7,0,0)", 1);
        status("set(0,2,0)", 2);
        status("copy(0,0,7,0,1)", 1);
        status("copy(0,0,1,0,1)", 5);
        status("copy(0,0,0,2,1)", 2);
        status("drop(7)", 1);
        status("fits(0,7,0,1,0)", 1);
        status("fits(0,0,2,1,0)", 2);
        status("bounds(7,0,1)", 1);
        status("bounds(0,2,1)", 2);
        status("as(0,4)", 3);

        edge.test("0: it had none");
        for (String call : new String[] {"row(0,0,0)", "set(0,0,1)", "copy(0,0,0,1,1)", "copy(0,0,0,0,0)", "drop(1)",
                "fits(0,0,0,1,0)", "fits(0,0,0,2,1)", "bounds(0,0,1)", "as(0,0)", "as(1,4)"}) {
            status(call, 0);
        }
    }

    private static void status(String call, int number) {
        edge.answers(ROWS + call, "status() = " + number);
        edge.stays(ROWS + call, "status() = " + number);
        for (String before : FOUND) {
            edge.answers(ROWS + before + " " + call, "status() = " + number, "status() = " + number);
        }
    }

    private static void leavesIt() {
        edge.test("a call that was BAD or STATE leaves it");
        for (int k = 0; k < FOUND.length; k++) {
            for (String call : new String[] {"row(8,0,1)", "row(0,3,1)", "row(0,0,41)", "set(8,0,0)", "copy(8,0,0,0,1)",
                    "copy(0,0,8,0,1)", "drop(8)", "fits(2,0,0,1,0)", "fits(0,8,0,1,0)", "fits(0,0,0,17,0)",
                    "fits(0,0,0,1,2)", "bounds(8,0,1)", "bounds(0,0,0)", "as(2,0)", "as(0,6)", "row(8,0,-1)",
                    "fits(0,7,0,0,0)"}) {
                edge.answers(ROWS + FOUND[k] + " " + call, "status() = " + (k + 1));
            }
        }
        edge.answers("row(0,0,2) set(0,2,0)", "bounds(0,0,1) = STATE", "status() = 2", "bounds(0,2,1) = STATE",
            "status() = 2", "bounds(7,0,1) = STATE", "status() = 2");

        edge.test("a call without a ROW leaves it, whatever it answers");
        for (int k = 0; k < FOUND.length; k++) {
            for (String call : new String[] {"feed(65)", "feed(256)", "feed(65)*101", "line()", "fault()", "minutes(1)",
                    "minutes(0)", "walk(0,1)", "walk(0,0)", "preach(0,3)", "preach(0,21)", "wish(0,0)", "wish(0,2)",
                    "undo()", "preach(0,3) undo()", "person(0,0)", "person(9,0)", "stop(0,0)", "stop(9,0)",
                    "where(0,1)", "where(0,61)", "tram(0)", "tram(61)", "there(1)", "when(0)", "all()", "never()",
                    "holding()", "call(0,0)", "go(0,0)", "walkers(1,0)", "rain(0,3,0)", "drawn(3,3,0)", "image(0)",
                    "image(2)", "restore(0)", "image(0) restore(0)", "kind(0)", "kind(9)", "ask(0,0)", "ask(9,0)",
                    "trace(0)", "trace(-1)", "count(0)", "count(8)", "status()", "t3,0;k0,0,0;", "!t9,0;"}) {
                edge.answers(ROWS + FOUND[k] + " " + call, "status() = " + (k + 1));
            }
        }
    }
}
