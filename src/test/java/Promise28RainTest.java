/** Promise 28, rain: RAIN (c 0 to 10): above (what = 0), below (1). BAD: no such STOP, too. */
public final class Promise28RainTest {
    private static final Edge edge = new Edge("Promise 28, rain");
    private static final int MIN = Integer.MIN_VALUE, MAX = Integer.MAX_VALUE;
    private static final String TWO = "t3,0;p0,5,1;p1,4,0;";
    private static final String SIX = "t2,18;k0,0,1;k0,0,1;k0,0,1;k0,0,1;k0,0,1;k0,0,1;";

    public static void main(String[] args) {
        edge.test("c: 0 to 10");
        rains(TWO, 0, 0, 1, 1);
        rains(TWO, 1, 0, 0, 1);
        rains(TWO, 0, 1, 9, 10);
        rains(TWO, 1, 1, 9, 100);
        rains(TWO, 0, 9, 1, 10);
        rains(TWO, 1, 9, 9, 100);
        rains(TWO, 0, 10, 0, 1);
        rains(TWO, 1, 10, 0, 1);
        edge.each(Edge.RICH, "rain(0,#,0) = BAD", -1, 11, 12, MIN, MAX);
        edge.each(Edge.RICH, "rain(0,#,1) = BAD", -1, 11);

        edge.test("0 is 0 by 1");
        rains(TWO, 2, 5, 0, 1);
        rains(Edge.EMPTY, 0, 0, 0, 1);
        rains(Edge.EMPTY, 1, 10, 0, 1);
        rains("t2,40;p0,20,1;", 0, 3, 0, 1);
        rains("t2,0;p0,0,1;", 0, 0, 0, 1);

        edge.test("lowest terms, of one to a million");
        rains(TWO, 0, 2, 4, 5);
        rains(TWO, 1, 2, 4, 25);
        rains(TWO, 0, 5, 1, 2);
        rains(TWO, 1, 5, 1, 4);
        rains(SIX, 0, 1, 531441, 1000000);
        rains(SIX, 0, 9, 1, 1000000);
        rains(SIX, 0, 5, 1, 64);
        rains(SIX, 0, 4, 729, 15625);

        edge.test("six of them: surely, never");
        rains(SIX, 0, 0, 1, 1);
        rains(SIX, 1, 0, 0, 1);
        rains(SIX, 0, 10, 0, 1);

        edge.test("now: all have WAITED as long as they have");
        rains("t2,5;d0,9,0; minutes(4)", 0, 3, 7, 10);
        rains("t2,5;d0,9,0; minutes(5)", 0, 3, 0, 1);

        edge.test("BOUND or more of those who HOPE; of several the least");
        rains("t2,3;k0,0,0;k0,0,0;", 0, 5, 3, 4);
        rains("t2,4;k0,0,0;k0,0,0;", 0, 5, 1, 4);
        rains("t2,0;k0,0,0;k1,0,0;", 0, 5, 1, 2);
        rains("t2,0;k0,0,0;k1,0,0;", 1, 5, 1, 4);

        edge.test("he is there for others all the same");
        rains("t2,6;c0,5,1;p0,0,1;", 0, 3, 7, 10);
        rains("t2,4;s0,0,1;k0,0,1;", 0, 3, 49, 100);

        edge.test("BAD: no such STOP");
        for (int what = 0; what <= 1; what++) {
            edge.each(Edge.RICH, "rain(#,1," + what + ") = BAD", -1, 5, 6, MIN, MAX);
            edge.each(Edge.CROWDED, "rain(#,1," + what + ") = BAD", -1, 8);
            edge.each(Edge.EMPTY, "rain(#,1," + what + ") = BAD", -1, 2);
            edge.each(Edge.NEW, "rain(#,1," + what + ") = BAD", -1, 0);
        }
        rains("t8,0;k7,0,7;", 7, 1, 9, 10);

        edge.test("BAD: neither 0 nor 1");
        edge.each(Edge.RICH, "rain(0,1,#) = BAD", -1, 2, 3, MIN, MAX);
        edge.beside("rain");
        edge.end();
    }

    private static void rains(String scene, int stop, int c, int above, int below) {
        edge.stays(scene, "rain(" + stop + "," + c + ",0) = " + above, "rain(" + stop + "," + c + ",1) = " + below);
    }
}
