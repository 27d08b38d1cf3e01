/** Promise 17, tram: Where THE TRAM is (NONE: nowhere), d MINUTES from now. BAD; STATE: no LINE (ahead of BAD). */
public final class Promise17TramTest {
    private static final Edge edge = new Edge("Promise 17, tram");
    private static final int MIN = Integer.MIN_VALUE, MAX = Integer.MAX_VALUE;

    public static void main(String[] args) {
        edge.test("d: 0 to 60 MINUTES from now");
        edge.stays("t4,5;p0,6,3;d2,5,0;", "tram(0) = 0", "tram(1) = 1", "tram(2) = 2", "tram(3) = 3", "tram(60) = 3");
        edge.stays(Edge.BEHIND_60, "tram(59) = 4");
        edge.each(Edge.RICH, "tram(#) = BAD", -1, 61, 62, MIN, MAX);
        edge.each(Edge.EMPTY, "tram(#) = BAD", -1, 61);

        edge.test("STATE: no LINE, ahead of BAD");
        edge.each(Edge.NEW, "tram(#) = STATE", 0, 60, -1, 61, MIN, MAX);
        edge.stays("!t9,0;", "tram(0) = STATE");

        edge.test("NONE: nowhere, since HOPE is not BOUND or more");
        edge.stays("t3,10;p0,9,2;", "tram(0) = NONE", "tram(60) = NONE");
        edge.stays("t3,10;p0,10,2;", "tram(0) = 0");
        edge.stays("t3,10;p0,11,2;", "tram(0) = 0");
        edge.stays("t3,40;p1,20,1;p1,19,1;", "tram(0) = NONE");
        edge.stays("t3,40;p1,20,1;p1,20,1;", "tram(0) = 1", "tram(60) = 1");
        edge.stays("t3,10;p0,9,2;p1,9,2;p2,9,2;", "tram(0) = NONE");

        edge.test("NONE: nowhere, since HOPE is not more than 0");
        edge.stays("t3,0;p0,0,2;", "tram(0) = NONE", "tram(60) = NONE");
        edge.stays("t3,0;p2,1,2;", "tram(0) = 2");
        edge.stays(Edge.EMPTY, "tram(0) = NONE", "tram(60) = NONE");
        edge.stays("t3,0;d1,2,1;", "tram(0) = 1", "tram(1) = 1", "tram(2) = NONE", "tram(3) = NONE");

        edge.test("from now on: one has WAITED as long as he has");
        edge.stays("t3,4;d0,5,0; minutes(1) wish(0,2)", "tram(0) = 0", "tram(1) = 1", "tram(2) = 2", "tram(3) = 2",
            "tram(4) = NONE");
        edge.stays("t3,4;d0,5,0; minutes(2) wish(0,2)", "tram(0) = NONE", "tram(1) = NONE");

        edge.test("most HOPE, of several the least");
        edge.stays("t3,0;p2,5,0;p1,5,0;p0,4,0;", "tram(0) = 1");
        edge.stays("t3,0;p2,6,0;p1,5,0;p0,4,0;", "tram(0) = 2");
        edge.stays("t3,5;p2,5,0;p1,5,0;p0,5,0;", "tram(0) = 0");
        edge.stays("t3,0;p2,6,0;p1,5,0;p1,2,0;", "tram(0) = 1");
        edge.stays("t8,0;k7,0,7;", "tram(0) = 7", "tram(60) = 7");
        edge.beside("tram");
        edge.end();
    }
}
