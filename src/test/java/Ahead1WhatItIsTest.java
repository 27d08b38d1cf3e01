/** What it is: an object is used for at most 512 calls after it has been made; every promise holds to the 512th. */
public final class Ahead1WhatItIsTest {
    private static final Edge edge = new Edge("What it is, 512 calls");
    private static final String ONE = "t2,0;p0,9,1; ";
    private static final String TWO = "t4,5;p0,6,3;d2,5,0; ";
    /** Refused, or foretold: none of them changes anything, status() neither. */
    private static final String[] IDLE = {"count(7)", "count(8)", "feed(-1)", "row(8,0,0)", "tram(9)", "person(0,4)",
        "walk(9,1)", "drawn(5,5,0)", "restore(2)", "fault()", "status()", "trace(0)", "stop(0,0)", "as(0,9)"};

    public static void main(String[] args) {
        rowsHold();
        linesAndActsHold();
        foretoldHolds();
        askedHolds();
        actsGoOn();
        linesGoOn();
        rowsGoOn();
        asksGoOn();
        dearestGoOn();
        edge.end();
    }

    /** The call is the 512th of an object that was asked idle things all along. */
    private static void last(String scene, String call, int want) {
        Player player = new Player(scene);
        for (int k = 0; player.callsLeft() > 1; k++) {
            player.call(IDLE[k % IDLE.length]);
        }
        edge.due("511 calls, " + scene, call, player.call(call), want);
        edge.due("511 calls, " + scene + call, "calls left", player.callsLeft(), 0);
    }

    private static void rowsHold() {
        edge.test("the 512th call, of rows");
        last("", "row(7,2,40)", 40);
        last("", "row(0,0,-1)", Check.SIZE);
        last("row(0,0,1)", "set(0,0,200)", -56);
        last("row(0,0,1)", "set(0,1,0)", Check.PLACE);
        last("row(0,0,2) row(1,0,2)", "copy(0,0,1,1,1)", 1);
        last("row(0,0,2) row(1,1,2)", "copy(0,0,1,1,1)", Check.STORE);
        last("row(3,1,7)", "drop(3)", 7);
        last("row(3,1,7) drop(3)", "drop(3)", Check.NULL);
    }

    private static void linesAndActsHold() {
        edge.test("the 512th call, of lines and acts");
        last("<t2", "feed(44)", 3);
        last("feed(0)*100", "feed(44)", Check.FULL);
        last("<t2,0;p0,1,1;", "line()", 1);
        last("<t2,0;p0,1,2;", "line()", -1000110);
        last("!t9,", "fault()", 2);
        last(ONE, "minutes(24)", 1);
        last(ONE + "minutes(24)*41", "minutes(16)", Check.FULL);
        last(ONE, "walk(0,1)", 1);
        last(ONE, "walk(0,0)", Check.STATE);
        last(ONE, "preach(0,20)", 9);
        last(ONE, "wish(0,0)", 1);
        last(ONE + "minutes(3)", "undo()", 2);
        last(ONE, "undo()", Check.STATE);
        last(ONE + "minutes(3)", "person(0,3)", 2);
        last(ONE + "minutes(3)", "stop(1,0)", 9);
    }

    private static void foretoldHolds() {
        edge.test("the 512th call, of what is foretold");
        last(TWO, "where(1,3)", 1);
        last(TWO, "tram(2)", 2);
        last(TWO, "there(60)", 1);
        last(TWO, "when(0)", 3);
        last(TWO, "when(1)", Check.NONE);
        last(TWO, "all()", Check.NONE);
        last(TWO, "never()", 2);
        last(TWO, "holding()", 5);
        last(TWO, "call(2,0)", 2);
        last(TWO, "go(0,1)", 1);
        last(TWO, "walkers(60,1)", 2);
        last(TWO + "row(0,0,4) set(0,1,1) set(0,2,2) set(0,3,3)", "fits(0,0,0,4,0)", (1 << 21) - 64);
        last(TWO + "row(0,0,4) set(0,1,1) set(0,2,2) set(0,3,3)", "bounds(0,0,4)", 127);
        last(TWO, "rain(2,2,0)", 4);
        last(TWO, "rain(2,2,1)", 25);
        last("t2,7;p0,0,1; ", "drawn(1,1,0)", 1);
        last(TWO, "image(1)", 1);
        last(TWO + "image(1) minutes(4)", "restore(1)", 1);
    }

    private static void askedHolds() {
        edge.test("the 512th call, of what is asked");
        last(TWO, "kind(1)", 3);
        last(TWO, "as(1,1)", 1);
        last(TWO, "as(1,4)", Check.KIND);
        last(TWO, "ask(1,1)", -999);
        last(TWO + "ask(1,1)", "trace(2)", 20);
        last(TWO + "minutes(4)", "count(3)", 4);
        last(TWO + "as(1,4)", "status()", 3);
    }

    private static void actsGoOn() {
        edge.test("ACTS to the 512th call; 24 can be undone at last");
        Player player = new Player("t2,40;p0,0,1;");
        int was = 0;
        for (int k = 1; player.callsLeft() > 26; k++) {
            edge.due("ACTS", "preach(0," + k % 21 + ")", player.call("preach(0," + k % 21 + ")"), was);
            was = k % 21;
        }
        edge.due("ACTS", "count(6)", player.call("count(6)"), 24);
        for (int left = 23; left >= 0; left--) {
            edge.due("ACTS", "undo()", player.call("undo()"), left);
        }
        edge.due("ACTS, 511 calls", "undo()", player.call("undo()"), Check.STATE);
    }

    private static void linesGoOn() {
        edge.test("LINES to the 512th call, an IMAGE of the first being kept");
        Player player = new Player("t3,7;s1,5,2; image(1)");
        for (int k = 0; player.callsLeft() > 40; k++) {
            player.feed(k % 2 == 0 ? "t2,9;" : "t2,9;k1,1,1;");
            edge.due("LINES", "line()", player.call("line()"), k % 2);
        }
        while (player.callsLeft() > 3) {
            player.call("count(0)");
        }
        edge.due("LINES", "restore(1)", player.call("restore(1)"), 1);
        edge.due("LINES", "count(4)", player.call("count(4)"), 7);
        edge.due("LINES, 511 calls", "kind(0)", player.call("kind(0)"), 5);
    }

    private static void rowsGoOn() {
        edge.test("ROWS to the 512th call");
        Player player = new Player("");
        for (int k = 0; player.callsLeft() > 2; k++) {
            String row = "row(" + k % 8 + "," + k % 3 + "," + k % 41 + ")";
            edge.due("ROWS", row, player.call(row), k % 41);
        }
        edge.due("ROWS", "count(0)", player.call("count(0)"), 8);
        edge.due("ROWS, 511 calls", "drop(5)", player.call("drop(5)"), 509 % 41);
    }

    private static void asksGoOn() {
        edge.test("ASKS to the 512th call; THE TRACE is the latest one's");
        Player player = new Player("t2,40;c0,5,1;s1,7,1;");
        while (player.callsLeft() > 2) {
            int p = player.callsLeft() % 2;
            edge.due("ASKS", "ask(" + p + ",0)", player.call("ask(" + p + ",0)"), p == 0 ? -5 : -186);
        }
        edge.due("ASKS", "trace(2)", player.call("trace(2)"), 10);
        edge.due("ASKS, 511 calls", "trace(3)", player.call("trace(3)"), Check.NONE);
    }

    private static void dearestGoOn() {
        edge.test("the dearest call to the 512th");
        Player player = new Player("t8,40;p0,0,7;p7,0,0;p0,0,7;p7,0,0;p0,0,7;p7,0,0;");
        while (player.callsLeft() > 0) {
            edge.due("all walk", "walkers(60,1)", player.call("walkers(60,1)"), 63);
        }
    }
}
