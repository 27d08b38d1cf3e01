/** Promise 32, kind: The KIND of a WAITER, as told (1 to 5). BAD. */
public final class Promise32KindTest {
    private static final Edge edge = new Edge("Promise 32, kind");
    private static final int MIN = Integer.MIN_VALUE, MAX = Integer.MAX_VALUE;

    public static void main(String[] args) {
        edge.test("as told, 1 to 5");
        edge.stays("t2,0;s0,0,0;k0,0,0;d0,0,0;c0,0,0;p0,0,0;s1,1,1;", "kind(0) = 5", "kind(1) = 4", "kind(2) = 3",
            "kind(3) = 2", "kind(4) = 1", "kind(5) = 5");

        edge.test("BAD: no such one");
        edge.each(Edge.RICH, "kind(#) = BAD", -1, 5, 6, MIN, MAX);
        edge.each(Edge.CROWDED, "kind(#) = BAD", -1, 6);
        edge.each(Edge.EMPTY, "kind(#) = BAD", -1, 0);
        edge.each(Edge.NEW, "kind(#) = BAD", -1, 0);
        edge.beside("kind");
        edge.end();
    }
}
