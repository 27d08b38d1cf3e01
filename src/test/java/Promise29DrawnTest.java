import java.math.BigInteger;

/**
 * Promise 29, drawn: DAYS of n MINUTES (0 to 60) by a SEED (1 to 999999): who is THERE (what = 0), how many MINUTES
 * (1). BAD; STATE: no LINE (ahead of BAD).
 */
public final class Promise29DrawnTest {
    private static final Edge edge = new Edge("Promise 29, drawn");
    private static final int MIN = Integer.MIN_VALUE, MAX = Integer.MAX_VALUE;

    public static void main(String[] args) {
        edge.test("n: 0 to 60 MINUTES");
        draws("t2,0;k0,0,0;p0,0,1;", 0, 1, 1, 0);
        draws("t2,0;k0,0,0;p0,0,1;", 1, 1, 3, 1);
        draws("t2,0;k0,0,0;p0,0,1;", 59, 1, 3, 59);
        draws("t2,0;k0,0,0;p0,0,1;", 60, 1, 3, 60);
        edge.each(Edge.RICH, "drawn(#,1,0) = BAD", -1, 61, 62, MIN, MAX);
        edge.each(Edge.RICH, "drawn(#,1,1) = BAD", -1, 61);

        edge.test("a SEED, 1 to 999999: FAITH by the first draw is 7, and 14");
        draws("t2,7;p0,0,1;", 1, 1, 1, 1);
        draws("t2,8;p0,0,1;", 1, 1, 0, 0);
        draws("t2,14;p0,0,1;", 1, 999999, 1, 1);
        draws("t2,15;p0,0,1;", 1, 999999, 0, 0);
        edge.each(Edge.RICH, "drawn(1,#,0) = BAD", 0, 1000000, -1, MIN, MAX);
        edge.each(Edge.RICH, "drawn(0,#,1) = BAD", 0, 1000000);

        edge.test("X goes on from MINUTE to MINUTE: 16807 behind 1");
        // FAITH by the draws from 1 on: 7 by 16807, 7 by 282475249, 2 by 1622650073, 20 by 984943658
        draws("t2,10;p0,0,1;", 3, 1, 0, 0);
        draws("t2,10;p0,0,1;", 4, 1, 1, 1);
        draws("t2,10;p0,0,1;", 2, 16807, 0, 0);
        draws("t2,10;p0,0,1;", 3, 16807, 1, 1);
        draws("t2,7;p0,0,0;", 4, 1, 1, 3);

        edge.test("the one who is the rest of X by how many there are");
        // 16807 is 1 by 2, 1 by 3, 3 by 4, 2 by 5, 1 by 6
        draws("t2,7;p0,0,1;p0,0,0;", 1, 1, 3, 1);
        draws("t2,7;p1,0,0;p0,0,1;", 1, 1, 2, 1);
        draws("t2,7;p1,0,0;p0,0,1;p1,0,0;", 1, 1, 2, 1);
        draws("t2,7;p1,0,0;p1,0,0;p1,0,0;p0,0,1;", 1, 1, 8, 1);
        draws("t2,7;p1,0,0;p1,0,0;p0,0,1;p1,0,0;p1,0,0;", 1, 1, 4, 1);
        draws("t2,7;p1,0,0;p0,0,1;p1,0,0;p1,0,0;p1,0,0;p1,0,0;", 1, 1, 2, 1);

        edge.test("X to the sixtieth draw");
        for (int seed : new int[] {1, 2, 16807, 524287, 999999}) {
            drawsOfOne(seed);
        }

        edge.test("all have WAITED as long as they have, and FAITH that becomes another does not change it");
        draws("t2,6;d0,0,0; minutes(1) wish(0,1)", 1, 1, 1, 1);
        draws("t2,7;d0,0,0; minutes(1) wish(0,1)", 1, 1, 0, 0);

        edge.test("THE TRAM ahead of the MINUTE, not behind it");
        draws("t2,7;d0,0,0;", 1, 1, 1, 1);
        draws("t2,10;s0,0,1;k1,0,1;", 1, 1, 3, 1);

        edge.test("nobody: of nobody");
        draws(Edge.EMPTY, 0, 1, 0, 0);
        draws(Edge.EMPTY, 60, 999999, 0, 0);

        edge.test("BAD: neither 0 nor 1");
        edge.each(Edge.RICH, "drawn(1,1,#) = BAD", -1, 2, 3, MIN, MAX);

        edge.test("STATE: no LINE, ahead of BAD");
        edge.each(Edge.NEW, "drawn(#,1,0) = STATE", 0, 60, -1, 61, MIN, MAX);
        edge.each(Edge.NEW, "drawn(1,#,0) = STATE", 1, 0, 1000000, MIN, MAX);
        edge.each(Edge.NEW, "drawn(1,1,#) = STATE", 1, -1, 2);
        edge.stays("!t9,0;", "drawn(1,1,0) = STATE");
        edge.beside("drawn");
        edge.end();
    }

    /** One alone, who is THERE: THE TRAM is with him in each MINUTE whose draw makes his FAITH BOUND. */
    private static void drawsOfOne(int seed) {
        for (int bound : new int[] {1, 11, 20}) {
            Player player = new Player("t2," + bound + ";p0,0,0;");
            BigInteger x = BigInteger.valueOf(seed);
            int minutes = 0;
            for (int n = 1; n <= 60; n++) {
                x = x.multiply(BigInteger.valueOf(16807)).mod(BigInteger.valueOf(2147483647));
                minutes += x.mod(BigInteger.valueOf(21)).intValue() >= bound ? 1 : 0;
                String call = "drawn(" + n + "," + seed + ",1)";
                edge.due("BOUND " + bound, call, player.call(call), minutes);
            }
        }
    }

    private static void draws(String scene, int n, int seed, int there, int minutes) {
        edge.stays(scene, "drawn(" + n + "," + seed + ",0) = " + there, "drawn(" + n + "," + seed + ",1) = " + minutes);
    }
}
