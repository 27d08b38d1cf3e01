/** Promise 18, there: Who is THERE (bits), d MINUTES from now. BAD; STATE: no LINE (ahead of BAD). */
public final class Promise18ThereTest {
    private static final Edge edge = new Edge("Promise 18, there");
    private static final int MIN = Integer.MIN_VALUE, MAX = Integer.MAX_VALUE;

    public static void main(String[] args) {
        edge.test("d: 0 to 60 MINUTES from now");
        edge.stays("t4,5;p0,6,3;d2,5,0;", "there(0) = 0", "there(2) = 0", "there(3) = 1", "there(60) = 1");
        edge.stays(Edge.BEHIND_60, "there(59) = 61", "there(60) = 63");
        edge.each(Edge.RICH, "there(#) = BAD", -1, 61, 62, MIN, MAX);
        edge.each(Edge.EMPTY, "there(#) = BAD", -1, 61);

        edge.test("STATE: no LINE, ahead of BAD");
        edge.each(Edge.NEW, "there(#) = STATE", 0, 60, -1, 61, MIN, MAX);
        edge.stays("!t9,0;", "there(0) = STATE");

        edge.test("from now on: one has WAITED as long as he has");
        edge.stays("t3,4;d0,5,0; minutes(1) wish(0,2)", "there(0) = 0", "there(1) = 0", "there(2) = 1");
        edge.stays("t3,4;d0,5,0; minutes(2) wish(0,2)", "there(2) = 0", "there(60) = 0");

        edge.test("bits: nobody, all");
        edge.stays(Edge.EMPTY, "there(0) = 0", "there(60) = 0");
        edge.stays("t2,40;p0,0,1;p0,0,1;p0,0,1;p0,0,1;p0,0,1;p0,0,1;", "there(0) = 0", "there(60) = 0");
        edge.stays("t2,40;p1,0,1;p1,0,1;p1,0,1;p1,0,1;p1,0,1;p1,0,1;", "there(0) = 63", "there(60) = 63");
        edge.stays("t2,0;p0,1,1;p0,0,1;p0,0,1;p0,0,1;p0,0,1;p0,0,1;", "there(0) = 0", "there(1) = 63");
        edge.beside("there");
        edge.end();
    }
}
