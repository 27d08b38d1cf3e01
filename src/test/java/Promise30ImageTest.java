/** Promise 30, image: An IMAGE (0, 1) is kept of the LINE: 1. BAD; STATE: no LINE. */
public final class Promise30ImageTest {
    private static final Edge edge = new Edge("Promise 30, image");
    private static final int MIN = Integer.MIN_VALUE, MAX = Integer.MAX_VALUE;

    public static void main(String[] args) {
        edge.test("an IMAGE, 0 or 1");
        edge.answers("t2,0;p0,1,1; image(0) preach(0,2)", "image(1) = 1", "preach(0,3) = 2", "restore(0) = 1",
            "person(0,1) = 1", "restore(1) = 1", "person(0,1) = 2");
        edge.each(Edge.RICH, "image(#) = BAD", -1, 2, 3, MIN, MAX);

        edge.test("STATE: no LINE");
        edge.each(Edge.NEW, "image(#) = STATE", 0, 1);
        edge.each("row(0,0,2) set(0,2,0) !t9,0;", "image(#) = STATE", 0, 1);

        edge.test("BAD is ahead of STATE");
        edge.each(Edge.NEW, "image(#) = BAD", -1, 2, MIN, MAX);

        edge.test("in place of the one that was kept");
        edge.answers("t2,0;p0,1,1; image(0) t8,9;", "image(0) = 1", "restore(0) = 1",
            "count(1) = 8", "count(2) = 0", "count(4) = 9");

        edge.test("of a LINE without anybody, with all there is room for");
        edge.answers(Edge.EMPTY, "image(1) = 1", "restore(1) = 1", "count(1) = 2", "count(2) = 0");
        edge.answers(Edge.CROWDED, "image(1) = 1", "preach(5,9) = 0", "wish(5,7) = 0", "walk(5,1) = 1",
            "minutes(1) = 28", "restore(1) = 1", "count(1) = 8", "count(2) = 6", "count(3) = 3", "person(5,0) = 0",
            "person(5,1) = 0", "person(5,2) = 0", "person(5,3) = 3", "person(0,0) = 3");

        edge.test("the LINE stays, and its ACTS can be undone");
        edge.answers("t4,5;p0,6,3;d2,5,0; minutes(2)", "image(0) = 1", "count(6) = 2", "count(3) = 2", "undo() = 1",
            "count(3) = 1", "restore(0) = 1", "count(3) = 2");
        edge.beside("image");
        edge.end();
    }
}
