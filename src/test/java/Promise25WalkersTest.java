/**
 * Promise 25, walkers: WALK for d: the fewest PEOPLE who walk so that all are THERE at once behind some of 0 to d
 * MINUTES: how many (what = 0), who (1); NONE. BAD; STATE: no LINE (ahead of BAD).
 */
public final class Promise25WalkersTest {
    private static final Edge edge = new Edge("Promise 25, walkers");
    private static final int MIN = Integer.MIN_VALUE, MAX = Integer.MAX_VALUE;
    private static final String FAR_APART = "t8,40;p0,0,7;p7,0,0;p0,0,7;p7,0,0;p0,0,7;p7,0,0;";

    public static void main(String[] args) {
        edge.test("d: 0 to 60");
        walks("t3,0;p0,5,0;", 0, "0", "0");
        walks("t3,0;p0,5,1;", 0, "NONE", "NONE");
        walks("t3,0;p0,5,1;", 1, "0", "0");
        walks(Edge.BEHIND_60, 60, "0", "0");
        edge.stays(Edge.BEHIND_60, "walkers(59,0) = 1");
        edge.stays(Edge.BEHIND_61, "walkers(60,0) = 1");
        walks(Edge.BEHIND_61 + " minutes(1)", 60, "0", "0");
        edge.each(Edge.RICH, "walkers(#,0) = BAD", -1, 61, 62, MIN, MAX);
        edge.each(Edge.RICH, "walkers(#,1) = BAD", -1, 61);

        edge.test("BAD: neither 0 nor 1");
        edge.each(Edge.RICH, "walkers(0,#) = BAD", -1, 2, 3, MIN, MAX);

        edge.test("STATE: no LINE, ahead of BAD");
        edge.each(Edge.NEW, "walkers(#,0) = STATE", 0, 60, -1, 61, MIN, MAX);
        edge.each(Edge.NEW, "walkers(0,#) = STATE", 1, -1, 2);
        edge.stays("!t9,0;", "walkers(0,0) = STATE");

        edge.test("nobody walks, all walk, nobody is there");
        walks("t3,0;p0,5,2;k1,0,0;", 2, "0", "0");
        walks(FAR_APART, 7, "6", "63");
        walks(FAR_APART, 60, "6", "63");
        walks(Edge.EMPTY, 0, "0", "0");
        walks(Edge.EMPTY, 60, "0", "0");

        edge.test("NONE: though all walk, d is too small");
        walks(FAR_APART, 6, "NONE", "NONE");
        walks("t3,40;p0,0,2;p2,0,1;p1,1,1;", 1, "NONE", "NONE");
        walks("t3,40;p0,0,2;p2,0,1;p1,1,1;", 2, "2", "3");

        edge.test("of several the least");
        // a saint calls THE TRAM as soon as the other one leaves him alone: either of them may walk
        walks("t2,10;s0,0,1;s0,0,1;", 2, "1", "1");
        walks("t2,10;s0,0,1;s0,0,1;", 1, "2", "3");
        walks("t2,10;k1,0,1;s0,0,1;s0,0,1;", 2, "1", "2");

        edge.test("the fewest");
        walks("t3,0;p0,5,1;p2,5,1;", 1, "1", "2");
        walks("t3,5;p0,3,1;p2,3,1;k1,0,1;", 2, "2", "3");

        edge.test("behind some of 0 to d MINUTES: all are THERE now, whatever comes");
        walks("t2,0;p1,5,1;k0,0,0;", 60, "0", "0");

        edge.test("they do so in place of riding, one STOP each MINUTE");
        walks("t4,8;p0,5,2;p1,3,2;", 60, "1", "1");
        walks("t3,5;p1,5,2;p0,1,2;", 60, "1", "2");
        walks("t3,0;p0,5,2;k1,0,1;", 1, "NONE", "NONE");

        edge.test("they have WAITED 0 MINUTES then");
        // the doubter HOPES anew as he walks by, and so the other one rides
        walks("t4,8;d0,5,3;p1,3,2; minutes(3)", 3, "1", "1");
        walks("t4,9;d0,5,3;p1,3,2; minutes(3)", 3, "2", "3");
        walks("t4,8;d0,5,3;p1,3,2; minutes(3)", 2, "NONE", "NONE");
        edge.beside("walkers");
        edge.end();
    }

    private static void walks(String scene, int d, String many, String who) {
        edge.stays(scene, "walkers(" + d + ",0) = " + many, "walkers(" + d + ",1) = " + who);
    }
}
