/** Promises 6 to 8: the tape, LINES, FAULTS. */
public final class TextTest {
    private static final Check check = new Check();

    public static void main(String[] args) {
        feeds();
        reads();
        findsFaults();
        readsNoOldBytes();
        staysBehindFaults();
        check.end("TextTest");
    }

    private static void feeds() {
        TramFaith x = new TramFaith();
        check.due("6 -1", x.feed(-1), Check.BAD);
        check.due("6 256", x.feed(256), Check.BAD);
        check.due("6 nothing came", x.count(7), 0);
        for (int i = 1; i <= 100; i++) {
            check.due("6 byte " + i, x.feed(i % 2 == 0 ? 0 : 255), i);
        }
        check.due("6 byte 101", x.feed('t'), Check.FULL);
        check.due("6 BAD ahead of FULL", x.feed(256), Check.BAD);
        check.due("6 bytes on it", x.count(7), 100);
        check.due("6 such a tape", x.line(), -1000100);
        check.due("6 empty then", x.feed('t'), 1);
    }

    private static void reads() {
        TramFaith x = new TramFaith();
        check.due("7 law alone", Check.type(x, "t2,0;"), 0);
        check.due("7 stops 2", x.count(1), 2);
        check.due("7 nobody", x.count(2), 0);
        check.due("7 all sorts", Check.type(x, "t8,40;p0,20,7;c7,0,0;d3,09,4;k5,1,05;s06,2,6;p0,0,0;"), 6);
        check.due("7 stops 8", x.count(1), 8);
        check.due("7 bound 40", x.count(4), 40);
        check.due("7 who is there", x.count(5), 56);
        int[][] told = {{0, 20, 7}, {7, 0, 0}, {3, 9, 4}, {5, 1, 5}, {6, 2, 6}, {0, 0, 0}};
        int[] kinds = {1, 2, 3, 4, 5, 1};
        for (int p = 0; p < 6; p++) {
            check.due("7 kind of " + p, x.kind(p), kinds[p]);
            for (int what = 0; what < 3; what++) {
                check.due("7 " + what + " of " + p, x.person(p, what), told[p][what]);
            }
            check.due("7 waited " + p, x.person(p, 3), 0);
        }
        x.minutes(3);
        x.walk(0, 1);
        check.due("7 in place of it", Check.type(x, "t02,00;d01,01,01;"), 1);
        check.due("7 minute 0", x.count(3), 0);
        check.due("7 nobody has waited", x.person(0, 3), 0);
        check.due("7 no act is left", x.count(6), 0);
        check.due("7 nothing to undo", x.undo(), Check.STATE);
        check.due("7 nobody else", x.person(1, 0), Check.BAD);
        check.due("8 before a fault", x.fault(), 0);
    }

    private static void fault(String text, int place, int number) {
        TramFaith x = new TramFaith();
        check.due("7 '" + text + "'", Check.type(x, text), -1000100 - place);
        check.due("8 of '" + text + "'", x.fault(), number);
        check.due("7 the tape is empty behind '" + text + "'", x.count(7), 0);
        check.due("7 no line by '" + text + "'", x.count(1), 0);
    }

    private static void findsFaults() {
        fault("", 0, 1);
        fault("t", 1, 1);
        fault("T2,0;", 0, 1);
        fault("p0,0,0;", 0, 1);
        fault(" t2,0;", 0, 1);
        fault("t 2,0;", 1, 1);
        fault("t;", 1, 1);
        fault("t1,0;", 1, 2);
        fault("t0", 1, 2);
        fault("t9,0;", 1, 2);
        fault("t99,0;", 1, 2);
        fault("t100,0;", 1, 1);
        fault("t002,0;", 1, 1);
        fault("t2", 2, 1);
        fault("t2;", 2, 1);
        fault("t2,41;", 3, 2);
        fault("t2,041;", 3, 1);
        fault("t2,40", 5, 1);
        fault("t2,40,", 5, 1);
        fault("t2,0;t2,0;", 5, 1);
        fault("t2,0;12;", 5, 1);
        fault("t2,0;" + (char) 200, 5, 1);
        fault("t2,0;" + (char) 0, 5, 1);
        fault("t2,0;p", 6, 1);
        fault("t2,0;pp", 6, 1);
        fault("t2,0;p2,0,0;", 6, 2);
        fault("t8,0;p8,0,0;", 6, 2);
        fault("t2,0;p0;", 7, 1);
        fault("t2,0;p0,21,0;", 8, 2);
        fault("t2,0;p0,020,0;", 8, 1);
        fault("t2,0;p0,20,2;", 11, 2);
        fault("t2,0;p0,20,1", 12, 1);
        fault("t2,0;p0,20,1,", 12, 1);
        fault("t2,0;p0,0,0;x0,0,0;", 12, 1);
        // of two faults the first token's, though the later one has a lower number
        fault("t9,0;?", 1, 2);
        String six = "t2,0;p0,0,0;c0,0,0;d0,0,0;k0,0,0;s0,0,0;p1,1,1;";
        fault(six + "p", 47, 3);
        fault(six + "s0,0,0;", 47, 3);
        fault(six + "q", 47, 1);
        fault(six + ";", 47, 1);
        fault(six + "1", 47, 1);
    }

    private static void readsNoOldBytes() {
        TramFaith x = Check.lineOf("t2,0;p0,0,0;");
        check.due("7 the end, where a sign was before", Check.type(x, "t2"), -1000102);
        Check.type(x, "t222222");
        check.due("7 the end, where figures were before", Check.type(x, "t2,"), -1000103);
        Check.type(x, "t222222");
        check.due("7 a number's end, where figures were before", Check.type(x, "t2"), -1000102);
        Check.type(x, "t2,0;p0,0,0;");
        check.due("7 nobody, where one was before", Check.type(x, "t2,0;"), 0);
        check.due("7 figures to the end of a full tape", Check.type(x, "t" + "2".repeat(99)), -1000101);
        check.due("8 of a full tape", x.fault(), 1);
    }

    private static void staysBehindFaults() {
        TramFaith x = Check.lineOf("t3,1;p0,5,2;");
        x.minutes(2);
        x.walk(0, 0);
        check.due("7 a fault", Check.type(x, "t3,1;p0,5,3;"), -1000110);
        check.due("7 the line stays", x.person(0, 0), 1);
        check.due("7 the minute stays", x.count(3), 2);
        check.due("7 the acts stay", x.count(6), 3);
        check.due("7 and can be undone", x.undo(), 2);
        check.due("7 he is back", x.person(0, 0), 2);
        check.due("8 2", x.fault(), 2);
        Check.type(x, "t3,1;");
        check.due("8 the latest, behind a line without", x.fault(), 2);
        Check.type(x, "u");
        check.due("8 1", x.fault(), 1);
    }
}
