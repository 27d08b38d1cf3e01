/** Promise 6, feed: A byte (0 to 255) comes behind the tape: how many it has. BAD; FULL. */
public final class Promise06FeedTest {
    private static final Edge edge = new Edge("Promise 6, feed");
    private static final int MIN = Integer.MIN_VALUE, MAX = Integer.MAX_VALUE;

    public static void main(String[] args) {
        edge.test("A byte, 0 to 255");
        edge.answers(Edge.NEW, "feed(0) = 1", "feed(255) = 2", "feed(128) = 3", "feed(127) = 4", "count(7) = 4");
        edge.each(Edge.RICH, "feed(#) = BAD", -1, 256, 257, MIN, MAX);
        edge.each(Edge.NEW, "feed(#) = BAD", -1, 256, 372);

        edge.test("what is BAD does not come: the tape is read without it");
        edge.answers("<t2,0 feed(-1) feed(256)", "feed(59) = 5", "line() = 0");

        edge.test("THE TAPE has at most 100 bytes; FULL");
        edge.answers("feed(65)*98", "feed(65) = 99", "feed(65) = 100", "feed(65) = FULL", "count(7) = 100",
            "feed(65) = FULL", "line() = -1000100", "count(7) = 0", "feed(65) = 1");
        edge.each("feed(116)*100", "feed(#) = FULL", 0, 65, 255);

        edge.test("BAD is ahead of FULL");
        edge.each("feed(116)*100", "feed(#) = BAD", -1, 256, MIN, MAX);

        edge.test("the hundredth byte is read, too");
        edge.answers("feed(116) feed(50)*99", "line() = -1000101", "fault() = 1");
        edge.answers("<t8,00;p00,20,07;c00,20,07;d00,20,07;k00,20,07;s00,20,07;p00,20,07; feed(112)*34",
            "count(7) = 100", "line() = -1000166", "fault() = 3");

        edge.test("bytes come one by one, behind the tape, a LINE or none");
        for (String scene : new String[] {Edge.NEW, Edge.LIVELY}) {
            edge.answers(scene + " <t2,0;p1,1", "count(7) = 9", "feed(44) = 10", "feed(48) = 11", "feed(59) = 12",
                "line() = 1", "person(0,0) = 1", "person(0,1) = 1", "person(0,2) = 0");
        }
        edge.beside("feed");
        edge.end();
    }
}
