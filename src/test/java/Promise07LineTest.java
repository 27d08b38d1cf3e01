/**
 * Promise 7, line: The tape, empty then, is read: how many PEOPLE there are. -1000100 less the place of a FAULT: all
 * stays.
 */
public final class Promise07LineTest {
    private static final Edge edge = new Edge("Promise 7, line");
    private static final String SIX = "p0,0,0;c0,0,0;d0,0,0;k0,0,0;s0,0,0;p1,1,1;";

    public static void main(String[] args) {
        readsLaws();
        readsPeople();
        readsNumbers();
        findsTheEnd();
        findsStrangers();
        findsTheFirst();
        standsInPlace();
        edge.beside("line");
        edge.end();
    }

    /** A tape that is a LINE: how many are there, then what calls answer. */
    private static void reads(String text, int people, String... calls) {
        Player player = new Player("<" + text);
        edge.due(text, "line()", player.call("line()"), people);
        edge.due(text, "count(7)", player.call("count(7)"), 0);
        edge.due(text, "count(2)", player.call("count(2)"), people);
        edge.due(text, "fault()", player.call("fault()"), 0);
        edge.answers(text, calls);
    }

    private static void fault(String text, int place, int number) {
        edge.faults(Edge.NEW, text, place, number);
        edge.faults(Edge.LIVELY, text, place, number);
    }

    private static void readsLaws() {
        edge.test("STOPS: 2 to 8");
        reads("t2,0;", 0, "count(1) = 2", "stop(1,0) = 0", "stop(2,0) = BAD");
        reads("t8,0;", 0, "count(1) = 8", "stop(7,0) = 0", "stop(8,0) = BAD");
        fault("t1,0;", 1, 2);
        fault("t0,0;", 1, 2);
        fault("t9,0;", 1, 2);
        fault("t10,0;", 1, 2);
        fault("t99,0;", 1, 2);

        edge.test("BOUND: 0 to 40");
        reads("t2,0;", 0, "count(4) = 0");
        reads("t2,40;", 0, "count(4) = 40");
        fault("t2,41;", 3, 2);
        fault("t2,99;", 3, 2);
    }

    private static void readsPeople() {
        edge.test("a person's STOP, and the one he WANTS: one of the STOPS");
        for (int stops = 2; stops <= 8; stops++) {
            String law = "t" + stops + ",0;";
            int last = stops - 1;
            reads(law + "p0,0," + last + ";", 1, "person(0,0) = 0", "person(0,2) = " + last);
            reads(law + "p" + last + ",0,0;", 1, "person(0,0) = " + last, "person(0,2) = 0");
            fault(law + "p" + stops + ",0,0;", 6, 2);
            fault(law + "p0,0," + stops + ";", 10, 2);
            fault(law + "p99,0,0;", 6, 2);
        }

        edge.test("FAITH: 0 to 20");
        reads("t2,0;p0,0,0;", 1, "person(0,1) = 0");
        reads("t2,0;p0,20,0;", 1, "person(0,1) = 20");
        fault("t2,0;p0,21,0;", 8, 2);
        fault("t2,0;p0,99,0;", 8, 2);

        edge.test("SORT: p, c, d, k, s");
        reads("t2,0;p0,0,0;c0,0,0;d0,0,0;k0,0,0;s0,0,0;", 5, "kind(0) = 1", "kind(1) = 2", "kind(2) = 3", "kind(3) = 4",
            "kind(4) = 5");

        edge.test("PEOPLE: 6 at most, nobody at least");
        reads("t2,0;", 0, "person(0,0) = BAD", "count(5) = 0");
        reads("t2,0;" + SIX, 6, "person(5,0) = 1", "person(6,0) = BAD", "count(5) = 63");
        fault("t2,0;" + SIX + "p0,0,0;", 47, 3);
        for (char sort : "pcdks".toCharArray()) {
            fault("t2,0;" + SIX + sort, 47, 3);
        }
        reads("t08,40;p07,20,00;c07,20,00;d07,20,00;k07,20,00;s07,20,00;p07,20,00;", 6, "count(5) = 0");
    }

    private static void readsNumbers() {
        edge.test("NUMBERS: figures, 2 at most; a run of three at its first");
        reads("t02,00;p00,00,01;", 1, "count(1) = 2", "count(4) = 0", "person(0,2) = 1");
        fault("t002,0;", 1, 1);
        fault("t222,0;", 1, 1);
        fault("t2,000;", 3, 1);
        fault("t2,040;", 3, 1);
        fault("t2,0;p000,0,0;", 6, 1);
        fault("t2,0;p0,020,0;", 8, 1);
        fault("t2,0;p0,0,001;", 10, 1);
        fault("t2,4444444444444444;", 3, 1);
        fault("t" + "0".repeat(99), 1, 1);

        edge.test("a NUMBER has a figure");
        fault("t,0;", 1, 1);
        fault("t2,;", 3, 1);
        fault("t2,0;p,0,0;", 6, 1);
        fault("t2,0;p0,,0;", 8, 1);
        fault("t2,0;p0,0,;", 10, 1);
        fault("t-2,0;", 1, 1);
        fault("t+2,0;", 1, 1);
    }

    private static void findsTheEnd() {
        edge.test("the end where it cannot stand: how many bytes there are");
        String whole = "t3,40;p0,20,2;c1,02,0;";
        for (int n = 0; n < whole.length(); n++) {
            String start = whole.substring(0, n);
            if (n == 6 || n == 14) {
                reads(start, n == 6 ? 0 : 1);
            } else {
                edge.faults(Edge.NEW, start, n, 1);
            }
        }
        reads(whole, 2);
        fault("", 0, 1);
        fault("t", 1, 1);
        fault("t2,0;s1,20", 10, 1);

        edge.test("the end is that of this tape, whatever was on an earlier one");
        edge.faults("t2,0;p0,0,0;", "t2", 2, 1);
        edge.faults("t2,0;p0,0,0;", "t2,0;p0,0", 9, 1);
        edge.faults("!t2,0;p0,0,000000", "t2,0;p0,0,0", 11, 1);
        edge.answers("t2,0;p0,0,0; <t2,0;", "line() = 0", "count(2) = 0");
    }

    private static void findsStrangers() {
        edge.test("nothing else, no blanks: each byte at each place");
        String whole = "t4,3;k2,5,1;";
        for (int place = 0; place < whole.length(); place++) {
            for (int letter = 0; letter <= 255; letter++) {
                tries(whole, place, (char) letter);
            }
        }

        edge.test("a figure in place of a SIGN makes one run of those beside it");
        fault("t403;k2,5,1;", 1, 1);
        fault("t4,30k2,5,1;", 5, 1);
        fault("t4,3;k205,1;", 6, 1);
        fault("t4,3;k2,501;", 8, 1);
        fault("t4,3;k2,5,10", 10, 2);

        edge.test("a TOKEN more cannot stand there");
        fault("tt4,3;", 1, 1);
        fault("t4,,3;", 3, 1);
        fault("t4,3;;", 5, 1);
        fault("t4,3;t4,3;", 5, 1);
        fault("t4,3;k2,5,1;;", 12, 1);
        fault("t4,3;k2,5,1,", 11, 1);
        fault("t4,3;k2,5,1;7", 12, 1);
        fault("t4,3,k2,5,1;", 4, 1);
        fault("k2,5,1;", 0, 1);
    }

    /** One byte in place of another: only what is told is read, else that TOKEN cannot stand there, or is none. */
    private static void tries(String whole, int place, char letter) {
        char was = whole.charAt(place);
        boolean isFigure = letter >= '0' && letter <= '9';
        boolean isSort = place == 5 && "pcdks".indexOf(letter) >= 0;
        // a figure beside figures makes another NUMBER: see the next test
        if (letter == was || isSort || isFigure && place != 0 && place != 5) {
            return;
        }
        String text = whole.substring(0, place) + letter + whole.substring(place + 1);
        Player player = new Player("");
        player.feed(text);
        String scene = "'" + text + "', its byte " + (int) letter;
        edge.due(scene, "line()", player.call("line()"), -1000100 - place);
        edge.due(scene, "fault()", player.call("fault()"), 1);
        edge.due(scene, "count(1)", player.call("count(1)"), 0);
    }

    private static void findsTheFirst() {
        edge.test("the first TOKEN that has a FAULT, though a later one has a lesser");
        fault("t9,0;?", 1, 2);
        fault("t2,41", 3, 2);
        fault("t9,41;", 1, 2);
        fault("t2,0;p2,21,2;", 6, 2);
        fault("t2,0;p0,21,?", 8, 2);
        fault("t2,0;" + SIX + "p?", 47, 3);

        edge.test("of one TOKEN the least");
        fault("t999,0;", 1, 1);
        fault("t2,0;" + SIX + "q", 47, 1);
        fault("t2,0;" + SIX + "t", 47, 1);
        fault("t2,0;" + SIX + "P", 47, 1);
        fault("t2,0;" + SIX + ";", 47, 1);
        fault("t2,0;" + SIX + ",", 47, 1);
        fault("t2,0;" + SIX + "9", 47, 1);
        fault("t2,0;" + SIX + "999", 47, 1);
    }

    private static void standsInPlace() {
        edge.test("in place of the one before: MINUTE 0, nobody has WAITED, no ACT can be undone");
        edge.answers("t4,40;p0,5,3;d2,5,0; minutes(24) minutes(3) walk(0,1) <t3,7;k1,4,2;d2,1,1;", "count(3) = 27",
            "person(1,3) = 27", "count(6) = 24", "line() = 2", "count(3) = 0", "person(0,3) = 0", "person(1,3) = 0",
            "count(6) = 0", "undo() = STATE", "count(1) = 3", "count(4) = 7", "kind(0) = 4", "kind(1) = 3",
            "person(0,0) = 1", "person(1,0) = 2", "person(0,1) = 4", "person(2,0) = BAD", "stop(3,0) = BAD");

        edge.test("MINUTE 0, nobody has WAITED, whatever was foretold of the one before");
        edge.answers("t4,40;p0,5,3;d2,5,0; minutes(24) minutes(3) there(60) <t3,7;k1,4,2;d2,1,1;", "line() = 2",
            "count(3) = 0", "person(0,3) = 0", "person(1,3) = 0", "person(1,4) = 1", "minutes(24) = 0", "count(3) = 24",
            "person(1,3) = 24");

        edge.test("a LINE that is read leaves ROWS, IMAGES, THE TRACE, the FAULT and status()");
        edge.answers(Edge.RICH, "line() = 1", "count(7) = 0", "status() = 2", "fault() = 2", "trace(0) = 12",
            "trace(5) = 20", "count(0) = 4", "set(1,0,70001) = 4465", "drop(2) = 40", "restore(1) = 1", "count(3) = 1",
            "restore(0) = 1", "count(3) = 2", "count(1) = 5");

        edge.test("the tape is empty then: it is not read twice");
        edge.answers("<t2,0;", "line() = 0", "line() = -1000100", "count(1) = 2");
    }
}
