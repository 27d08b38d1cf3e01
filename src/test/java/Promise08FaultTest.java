/** Promise 8, fault: The number of the latest FAULT; 0 before one. */
public final class Promise08FaultTest {
    private static final Edge edge = new Edge("Promise 8, fault");
    private static final String SEVEN = "!t2,0;p0,0,0;c0,0,0;d0,0,0;k0,0,0;s0,0,0;p1,1,1;p0,0,0;";

    public static void main(String[] args) {
        edge.test("0 before one");
        edge.stays(Edge.NEW, "fault() = 0");
        edge.stays("t2,0;p0,0,1; minutes(1) row(0,0,1) set(0,2,2)", "fault() = 0");
        edge.answers("feed(65)*100", "feed(65) = FULL", "fault() = 0", "feed(256) = BAD", "fault() = 0");

        edge.test("1: it cannot stand there, or is none; the end");
        edge.stays("!u", "fault() = 1");
        edge.stays("!t222,0;", "fault() = 1");
        edge.answers(Edge.NEW, "line() = -1000100", "fault() = 1");

        edge.test("2: a NUMBER that is not as told");
        edge.stays("!t9,0;", "fault() = 2");
        edge.stays("!t2,0;p0,21,0;", "fault() = 2");

        edge.test("3: a person more than there is room for");
        edge.stays(SEVEN, "fault() = 3");

        edge.test("the latest");
        edge.answers("!t9,0; " + SEVEN, "fault() = 3");
        edge.answers(SEVEN + " !t9,0;", "fault() = 2");
        edge.answers(SEVEN + " !t9,0; !x", "fault() = 1");

        edge.test("a LINE without a FAULT leaves it, and so does all else");
        edge.stays("!t9,0; t2,0;p0,1,1; minutes(3) undo() image(0) restore(0) row(0,0,-1) feed(300)", "fault() = 2");
        edge.beside("fault");
        edge.end();
    }
}
