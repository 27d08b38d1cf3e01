/** Promise 33, as: A WAITER is taken as one of a KIND (0 .. 5): its number. BAD; KIND: it is no such one. */
public final class Promise33AsTest {
    private static final Edge edge = new Edge("Promise 33, as");
    private static final int MIN = Integer.MIN_VALUE, MAX = Integer.MAX_VALUE;
    private static final String ALL_KINDS = "t4,40;p0,6,0;c0,5,0;d0,4,0;k0,3,0;s0,2,0;p1,1,1; row(0,0,1) set(0,1,0)";

    public static void main(String[] args) {
        edge.test("each KIND as each; KIND: it is no such one");
        // bits of the KINDS that a WAITER of each KIND is: itself, those it is a kind of, a WAITER
        int[] sets = {1 + 2, 1 + 2 + 4, 1 + 2 + 8, 1 + 16, 1 + 16 + 32, 1 + 2};
        for (int p = 0; p < sets.length; p++) {
            for (int kind = 0; kind <= 5; kind++) {
                boolean isOne = (sets[p] >> kind & 1) == 1;
                edge.stays(ALL_KINDS, "as(" + p + "," + kind + ") = " + (isOne ? Integer.toString(p) : "KIND"));
            }
        }

        edge.test("BAD: no such KIND");
        for (int p = 0; p < sets.length; p++) {
            edge.each(ALL_KINDS, "as(" + p + ",#) = BAD", -1, 6, 7, MIN, MAX);
        }

        edge.test("BAD: no such one, ahead of KIND");
        for (int kind = 0; kind <= 5; kind++) {
            edge.each(Edge.RICH, "as(#," + kind + ") = BAD", -1, 5, 6, MIN, MAX);
            edge.each(ALL_KINDS, "as(#," + kind + ") = BAD", -1, 6);
            edge.each(Edge.EMPTY, "as(#," + kind + ") = BAD", -1, 0);
            edge.each(Edge.NEW, "as(#," + kind + ") = BAD", -1, 0);
        }
        edge.beside("as");
        edge.end();
    }
}
