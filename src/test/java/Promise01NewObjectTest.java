import java.util.Map;
import java.util.Set;

/** Promise 1, a new object: No LINE. */
public final class Promise01NewObjectTest {
    private static final Edge edge = new Edge("Promise 1, a new object");

    public static void main(String[] args) {
        edge.test("No LINE: what wants one is STATE");
        edge.stays(Edge.NEW, "minutes(1) = STATE", "tram(0) = STATE", "there(0) = STATE", "all() = STATE",
            "never() = STATE", "holding() = STATE", "walkers(0,0) = STATE", "bounds(0,0,1) = STATE",
            "drawn(0,1,0) = STATE", "image(0) = STATE", "image(1) = STATE");

        edge.test("No LINE: there is nobody, and no STOP");
        edge.stays(Edge.NEW, "walk(0,1) = BAD", "walk(0,0) = BAD", "preach(0,0) = BAD", "wish(0,0) = BAD",
            "person(0,0) = BAD", "stop(0,0) = BAD", "where(0,0) = BAD", "when(0) = BAD", "call(0,0) = BAD",
            "go(0,0) = BAD", "fits(0,0,0,1,0) = BAD", "rain(0,0,0) = BAD", "kind(0) = BAD", "as(0,0) = BAD",
            "ask(0,0) = BAD");

        edge.test("No LINE: nothing can be undone, no IMAGE was kept");
        edge.stays(Edge.NEW, "undo() = STATE", "restore(0) = STATE", "restore(1) = STATE");

        edge.test("ROWS are missing at first");
        for (int row = 0; row <= 7; row++) {
            edge.stays(Edge.NEW, "drop(" + row + ") = NULL", "set(" + row + ",0,0) = NULL",
                "copy(" + row + ",0," + row + ",0,0) = NULL");
        }

        edge.test("the tape is empty, there was no FAULT, no FINDING, THE TRACE is empty, all counts are 0");
        edge.answers(Edge.NEW, "status() = 0", "fault() = 0", "trace(0) = NONE", "count(0) = 0", "count(1) = 0",
            "count(2) = 0", "count(3) = 0", "count(4) = 0", "count(5) = 0", "count(6) = 0", "count(7) = 0",
            "line() = -1000100");

        anotherObjectIsNew();
        edge.end();
    }

    private static void anotherObjectIsNew() {
        edge.test("a new object has nothing of one before it");
        Map<String, Integer> first = Witness.look(new Player(Edge.NEW));
        Player early = new Player(Edge.NEW);
        new Player(Edge.RICH);
        for (Player other : new Player[] {early, new Player(Edge.NEW)}) {
            edge.due("another object", "status()", other.call("status()"), 0);
            String told = Witness.difference(first, Witness.look(other), Set.of());
            edge.due("another object", "what differs:" + told, told.length(), 0);
        }
    }
}
