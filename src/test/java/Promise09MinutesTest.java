/**
 * Promise 9, minutes: n MINUTES (1 to 24), an ACT each: who is THERE (bits). BAD; STATE: no LINE (ahead of BAD);
 * FULL: beyond MINUTE 999.
 */
public final class Promise09MinutesTest {
    private static final Edge edge = new Edge("Promise 9, minutes");
    private static final int MIN = Integer.MIN_VALUE, MAX = Integer.MAX_VALUE;
    private static final String AT_984 = "t2,0;p0,1,0; minutes(24)*41";
    private static final String AT_999 = AT_984 + " minutes(15)";

    public static void main(String[] args) {
        takesNumbers();
        endsAtTheLast();
        takesAlong();
        waits();
        edge.beside("minutes");
        edge.end();
    }

    private static void takesNumbers() {
        edge.test("n MINUTES, 1 to 24");
        edge.answers(Edge.EMPTY, "minutes(1) = 0", "count(3) = 1", "count(6) = 1", "minutes(24) = 0", "count(3) = 25");
        edge.each(Edge.RICH, "minutes(#) = BAD", 0, 25, -1, 26, MIN, MAX);
        edge.each(Edge.EMPTY, "minutes(#) = BAD", 0, 25);

        edge.test("STATE: no LINE, ahead of BAD");
        edge.each(Edge.NEW, "minutes(#) = STATE", 1, 24, 0, 25, -1, MIN, MAX);
        edge.stays("!t9,0;", "minutes(1) = STATE");

        edge.test("an ACT each");
        edge.answers("t8,0;p0,1,7;", "minutes(3) = 0", "count(6) = 3", "undo() = 2", "count(3) = 2", "person(0,0) = 2",
            "undo() = 1", "undo() = 0", "person(0,0) = 0", "count(3) = 0");
        edge.answers(Edge.EMPTY, "minutes(24) = 0", "count(6) = 24", "minutes(1) = 0", "count(6) = 24");

        edge.test("who is THERE, bits: nobody, one, all");
        edge.answers("t2,40;p0,1,1;", "minutes(24) = 0");
        edge.answers("t2,40;p0,1,1;p1,1,1;", "minutes(1) = 2");
        edge.answers("t2,40;p0,0,0;c0,0,0;d0,0,0;k1,0,1;s1,0,1;p1,0,1;", "minutes(1) = 63");
    }

    private static void endsAtTheLast() {
        edge.test("FULL: beyond MINUTE 999");
        edge.answers(AT_984, "count(3) = 984", "minutes(15) = 1", "count(3) = 999", "minutes(1) = FULL",
            "count(3) = 999", "undo() = 23", "minutes(2) = FULL", "minutes(1) = 1", "count(3) = 999");
        edge.each(AT_984, "minutes(#) = FULL", 16, 17, 24);
        edge.each(AT_999, "minutes(#) = FULL", 1, 2, 24);

        edge.test("BAD is ahead of FULL");
        edge.each(AT_984, "minutes(#) = BAD", 25, MAX);
        edge.each(AT_999, "minutes(#) = BAD", 0, 25, -1, MIN, MAX);

        edge.test("at MINUTE 999 all else goes on");
        edge.answers(AT_999, "walk(0,1) = 1", "preach(0,3) = 1", "wish(0,1) = 0", "there(60) = 1", "drawn(60,1,0) = 1",
            "image(0) = 1", "minutes(1) = FULL");
    }

    private static void takesAlong() {
        edge.test("THE TRAM is there if HOPE is BOUND or more");
        edge.answers("t3,6;p0,6,2;", "minutes(1) = 0", "person(0,0) = 1", "person(0,3) = 0");
        edge.answers("t3,7;p0,6,2;", "minutes(1) = 0", "person(0,0) = 0", "person(0,3) = 1");
        edge.answers("t2,40;p0,20,1;p0,20,1;", "minutes(1) = 3");
        edge.answers("t2,40;p0,20,1;p0,19,1;", "minutes(24) = 0", "person(1,3) = 24");

        edge.test("and if it is more than 0");
        edge.answers("t3,0;p0,0,2;", "minutes(1) = 0", "person(0,0) = 0", "person(0,3) = 1");
        edge.answers("t3,0;p0,1,2;", "minutes(1) = 0", "person(0,0) = 1", "person(0,3) = 0");

        edge.test("of several the least");
        edge.answers("t3,0;p2,5,0;p1,5,0;", "minutes(1) = 2", "person(0,0) = 2", "person(0,3) = 1");
        edge.answers("t3,0;p2,6,0;p1,5,0;", "minutes(1) = 0", "person(0,0) = 1", "person(1,0) = 1", "person(1,3) = 1");

        edge.test("who is THERE does not ride");
        edge.answers("t3,0;p1,9,1;p1,0,2;", "minutes(1) = 3", "person(0,0) = 1", "person(0,3) = 1", "person(1,0) = 2");

        edge.test("towards the STOP one WANTS, to each end of the line, and both ways at once");
        edge.answers("t8,0;p7,1,0;", "minutes(6) = 0", "person(0,0) = 1", "minutes(1) = 1", "minutes(1) = 1",
            "person(0,0) = 0", "person(0,3) = 1");
        edge.answers("t8,0;p0,1,7;", "minutes(6) = 0", "person(0,0) = 6", "minutes(1) = 1", "minutes(1) = 1",
            "person(0,0) = 7");
        edge.answers("t3,0;p1,5,0;p1,5,2;", "minutes(1) = 3");

        edge.test("each KIND rides, and has WAITED 0 MINUTES then");
        for (char sort : "pcdks".toCharArray()) {
            edge.answers("t3,12;" + sort + "0,9,2;p0,20,2; minutes(1)", "person(0,0) = 1", "person(0,3) = 0",
                "minutes(1) = 3", "person(0,0) = 2", "person(0,3) = 0");
        }

        edge.test("THE TRAM as it is ahead of the MINUTE");
        edge.answers("t3,0;p0,5,2;k1,0,0;", "minutes(1) = 0", "person(0,0) = 1", "person(1,0) = 1", "person(1,3) = 1",
            "minutes(1) = 3", "person(1,3) = 0");
    }

    private static void waits() {
        edge.test("all others have WAITED 1 MINUTE more: each KIND, THERE or not, THE TRAM being nowhere or elsewhere");
        for (char sort : "pcdks".toCharArray()) {
            edge.answers("t3,40;" + sort + "0,9,2;" + sort + "1,9,1; minutes(3)", "person(0,0) = 0", "person(0,3) = 3",
                "person(1,0) = 1", "person(1,3) = 3");
            edge.answers("t3,30;" + sort + "0,9,2;" + sort + "1,9,1;p2,20,2;p2,20,2; minutes(3)", "person(0,0) = 0",
                "person(0,3) = 3", "person(1,3) = 3", "person(2,3) = 3");
        }

        edge.test("WAITED: 99 at most");
        edge.answers("t2,0;p0,1,0; minutes(24)*4 minutes(2)", "person(0,3) = 98", "minutes(1) = 1", "person(0,3) = 99",
            "minutes(1) = 1", "person(0,3) = 99", "minutes(24) = 1", "person(0,3) = 99", "count(3) = 124");

        edge.test("who rides has WAITED 0 MINUTES, were they 99");
        edge.answers("t2,40;p0,20,1;d0,20,1; minutes(24)*5", "person(0,3) = 99", "preach(1,0) = 20", "wish(0,0) = 1",
            "person(0,3) = 99");
        edge.answers("t2,10;p0,9,1; minutes(24)*5 preach(0,10)", "person(0,3) = 99", "minutes(1) = 1",
            "person(0,3) = 0", "minutes(1) = 1", "person(0,3) = 1");
    }
}
