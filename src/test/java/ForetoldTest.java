/** Promises 16 to 25: what is foretold. */
public final class ForetoldTest {
    private static final Check check = new Check();

    public static void main(String[] args) {
        tellsTheWay();
        tellsByItself();
        endsAtSixty();
        findsTheTram();
        tellsAll();
        holds();
        calls();
        goes();
        walks();
        refuses();
        changesNothing();
        check.end("ForetoldTest");
    }

    private static void tellsTheWay() {
        TramFaith x = Check.lineOf("t4,5;p0,6,3;d2,5,0;");
        int[][] due = {{0, 2, 0, 0}, {1, 2, 1, 0}, {2, 2, 2, 0}, {3, 1, 3, 1}, {3, 1, 3, 1}};
        for (int d = 0; d < due.length; d++) {
            check.due("16 where 0 is behind " + d, x.where(0, d), due[d][0]);
            check.due("16 where 1 is behind " + d, x.where(1, d), due[d][1]);
            check.due("17 the tram behind " + d, x.tram(d), due[d][2]);
            check.due("18 who is there behind " + d, x.there(d), due[d][3]);
        }
        check.due("16 behind 60", x.where(1, 60), 1);
        check.due("17 behind 60", x.tram(60), 3);
        check.due("18 behind 60", x.there(60), 1);
        check.due("19 when 0", x.when(0), 3);
        check.due("19 when 1", x.when(1), Check.NONE);
        check.due("20 all", x.all(), Check.NONE);
        check.due("21 never", x.never(), 2);
        check.due("22 holding", x.holding(), 5);
        x.minutes(2);
        check.due("16 from now on", x.where(0, 1), 3);
        check.due("19 from now on", x.when(0), 1);
        x.minutes(1);
        check.due("19 now", x.when(0), 0);
    }

    /** Each call is the first one, so that none lives on what another has played. */
    private static void tellsByItself() {
        String text = "t4,5;p0,6,3;d2,5,0;";
        check.due("16 first of all", Check.lineOf(text).where(0, 2), 2);
        check.due("17 first of all", Check.lineOf(text).tram(2), 2);
        check.due("18 first of all", Check.lineOf(text).there(3), 1);
        check.due("19 first of all", Check.lineOf(text).when(0), 3);
        check.due("20 first of all", Check.lineOf("t3,0;p0,5,2;k1,0,0;").all(), 2);
        check.due("21 first of all", Check.lineOf(text).never(), 2);
        check.due("19 nobody walks", Check.lineOf("t3,40;p0,6,2;").when(0), Check.NONE);
        check.due("20 nobody walks", Check.lineOf("t3,40;p0,6,2;").all(), Check.NONE);
        TramFaith x = Check.lineOf("t3,0;p0,5,2;k1,0,0;");
        x.there(60);
        check.due("20 from now on, whatever was foretold", x.all(), 2);
        x.there(60);
        check.due("23 from now on, whatever was foretold", x.call(0, 1), 0);
    }

    /** Doubters in each other's way: these come as late as can be told, or one MINUTE too late for that. */
    private static void endsAtSixty() {
        TramFaith late = Check.lineOf("t7,3;s2,18,6;d6,16,3;d1,12,2;d4,19,0;d1,18,0;d3,18,1;");
        check.due("19 behind 60", late.when(1), 60);
        check.due("20 behind 60", late.all(), 60);
        check.due("21 behind 60", late.never(), 0);
        check.due("18 behind 59", late.there(59), 61);
        check.due("25 for 60", late.walkers(60, 0), 0);
        check.due("25 for 59", late.walkers(59, 0), 1);
        TramFaith later = Check.lineOf("t8,2;d2,19,4;d6,20,6;k5,5,0;d3,17,7;d7,7,5;d1,17,6;");
        check.due("19 behind 61", later.when(4), Check.NONE);
        check.due("20 behind 61", later.all(), Check.NONE);
        check.due("21 behind 61", later.never(), 16);
        check.due("25 for 60, not 61", later.walkers(60, 0), 1);
        later.minutes(1);
        check.due("19 behind 60 by now", later.when(4), 60);
        check.due("20 behind 60 by now", later.all(), 60);
        check.due("21 behind 60 by now", later.never(), 0);
        check.due("25 for 60 by now", later.walkers(60, 0), 0);
    }

    private static void findsTheTram() {
        check.due("17 below the bound", Check.lineOf("t3,10;p0,9,2;").tram(0), Check.NONE);
        check.due("17 at the bound", Check.lineOf("t3,10;p0,10,2;").tram(0), 0);
        check.due("17 bound 0, no hope", Check.lineOf("t3,0;p0,0,2;").tram(0), Check.NONE);
        check.due("17 nobody", Check.lineOf("t3,0;").tram(60), Check.NONE);
        check.due("17 of several the least", Check.lineOf("t3,0;p2,5,0;p1,5,0;p0,4,0;").tram(0), 1);
        check.due("17 the most", Check.lineOf("t3,0;p2,6,0;p1,5,0;p0,4,0;").tram(0), 2);
        check.due("17 all of a stop together", Check.lineOf("t3,0;p2,6,0;p1,5,0;p1,2,0;").tram(0), 1);
        check.due("17 the last stop", Check.lineOf("t8,0;k7,0,7;").tram(0), 7);
    }

    private static void tellsAll() {
        TramFaith x = Check.lineOf("t3,0;p0,5,2;k1,0,0;");
        check.due("20 both", x.all(), 2);
        check.due("19 when 0", x.when(0), 2);
        check.due("19 when 1", x.when(1), 2);
        check.due("21 all come", x.never(), 0);
        x.minutes(2);
        check.due("20 now", x.all(), 0);
        TramFaith nobody = Check.lineOf("t3,0;");
        check.due("20 nobody", nobody.all(), 0);
        check.due("21 nobody", nobody.never(), 0);
        TramFaith stuck = Check.lineOf("t3,40;p0,5,2;k1,0,1;p2,1,1;");
        check.due("21 two of three", stuck.never(), 5);
        check.due("18 one of three", stuck.there(60), 2);
    }

    private static void holds() {
        check.due("22 bound 0, more than 0", Check.lineOf("t3,0;p0,0,2;p1,1,2;").holding(), 2);
        check.due("22 one below, one at the bound", Check.lineOf("t3,5;p0,4,2;p2,5,2;").holding(), 4);
        check.due("22 none", Check.lineOf("t3,5;").holding(), 0);
        check.due("22 all", Check.lineOf("t3,3;k0,0,0;k1,0,0;k2,0,0;").holding(), 7);
    }

    private static void call(String text, int stop, int more, int who) {
        TramFaith x = Check.lineOf(text);
        check.due("23 how much: " + text, x.call(stop, 0), more);
        check.due("23 who: " + text, x.call(stop, 1), who);
    }

    private static void calls() {
        call("t2,0;k0,5,0;p0,5,0;p1,1,0;", 0, 0, 0);
        call("t2,0;k0,5,0;p0,5,0;p1,20,0;", 0, 12, 1);
        call("t2,0;k1,5,0;p1,5,0;p0,20,0;", 1, 13, 1);
        call("t2,0;k0,5,0;p1,20,0;", 0, Check.NONE, Check.NONE);
        call("t2,0;p0,0,1;p1,20,0;p1,20,0;", 0, 40, 0);
        call("t2,0;p1,0,0;p0,20,1;p0,20,1;", 1, Check.NONE, Check.NONE);
        call("t2,40;p0,0,1;", 0, 40, 0);
        call("t2,40;p1,20,1;", 1, 20, 0);
        call("t2,0;p0,0,1;", 0, 1, 0);
        call("t2,0;p0,0,1;", 1, Check.NONE, Check.NONE);
        call("t2,9;p0,3,1;c0,1,1;p0,3,1;", 0, 0, 0);
        call("t2,20;s0,3,1;c0,1,1;p0,3,1;", 0, 11, 1);
        TramFaith x = Check.lineOf("t2,30;d0,5,0;p0,5,0;");
        x.minutes(10);
        check.due("23 a doubter who waited takes more", x.call(0, 0), 25);
        check.due("23 the other one", x.call(0, 1), 1);
        x.walk(1, 1);
        check.due("23 a doubter alone", x.call(0, 0), 35);
        check.due("23 what 2", x.call(0, 2), Check.BAD);
        check.due("23 what -1", x.call(0, -1), Check.BAD);
        check.due("23 stop 2", x.call(2, 0), Check.BAD);
        check.due("23 stop -1", x.call(-1, 0), Check.BAD);
    }

    private static void go(TramFaith x, String what, int person, int stop, int behind) {
        check.due("24 which: " + what, x.go(person, 0), stop);
        check.due("24 how many: " + what, x.go(person, 1), behind);
    }

    private static void goes() {
        TramFaith two = Check.lineOf("t4,0;p0,1,3;p2,9,3;");
        go(two, "with the other one", 0, 2, 1);
        go(two, "where he is", 1, 2, 1);
        go(Check.lineOf("t3,40;p0,1,2;"), "by none", 0, Check.NONE, Check.NONE);
        go(Check.lineOf("t3,0;p1,9,1;"), "of several the first", 0, 0, 1);
        go(Check.lineOf("t8,0;p0,9,7;"), "not the one he wants", 0, 6, 1);
        TramFaith doubts = Check.lineOf("t3,0;d0,5,2;p2,6,2;");
        doubts.minutes(2);
        doubts.preach(1, 4);
        go(doubts, "elsewhere he has not waited", 0, 1, 1);
        TramFaith stays = Check.lineOf("t2,0;d0,5,1;p1,6,1;");
        stays.minutes(2);
        stays.preach(1, 4);
        go(stays, "where he is he has waited", 0, Check.NONE, Check.NONE);
        check.due("24 what 2", two.go(0, 2), Check.BAD);
        check.due("24 what -1", two.go(0, -1), Check.BAD);
        check.due("24 person 2", two.go(2, 0), Check.BAD);
        check.due("24 person -1", two.go(-1, 0), Check.BAD);
    }

    private static void walkers(String text, int d, int many, int who) {
        TramFaith x = Check.lineOf(text);
        check.due("25 how many for " + d + ": " + text, x.walkers(d, 0), many);
        check.due("25 who for " + d + ": " + text, x.walkers(d, 1), who);
    }

    private static void walks() {
        walkers("t3,40;p0,0,2;p2,0,1;p1,1,1;", 2, 2, 3);
        walkers("t3,40;p0,0,2;p2,0,1;p1,1,1;", 1, Check.NONE, Check.NONE);
        walkers("t3,40;p0,0,2;p2,0,1;p1,1,1;", 60, 2, 3);
        walkers("t3,0;p0,5,2;k1,0,0;", 2, 0, 0);
        walkers("t3,0;p0,5,2;k1,0,0;", 1, Check.NONE, Check.NONE);
        walkers("t3,0;p0,5,1;p2,5,1;", 1, 1, 2);
        walkers("t3,0;p0,5,0;", 0, 0, 0);
        walkers("t3,0;p0,5,1;", 0, Check.NONE, Check.NONE);
        walkers("t3,0;", 0, 0, 0);
        walkers("t8,40;p0,0,7;p7,0,0;p0,0,7;p7,0,0;p0,0,7;p7,0,0;", 7, 6, 63);
        walkers("t8,40;p0,0,7;p7,0,0;p0,0,7;p7,0,0;p0,0,7;p7,0,0;", 6, Check.NONE, Check.NONE);
        walkers("t8,40;p0,0,7;p7,0,0;p0,0,7;p7,0,0;p0,0,7;p7,0,0;", 60, 6, 63);
        // a walker's faith makes up the bound where he passes by, so that who waits at 1 rides
        walkers("t4,8;p0,5,2;p1,3,2;", 60, 1, 1);
        // together they would be enough for the bound, but one rides off without the other
        walkers("t3,5;p1,5,2;p0,1,2;", 60, 1, 2);
    }

    private static void refuses() {
        TramFaith none = new TramFaith();
        check.due("16 no line", none.where(0, 0), Check.BAD);
        check.due("17 STATE ahead of BAD", none.tram(61), Check.STATE);
        check.due("18 STATE ahead of BAD", none.there(61), Check.STATE);
        check.due("19 no line", none.when(0), Check.BAD);
        check.due("20 no line", none.all(), Check.STATE);
        check.due("21 no line", none.never(), Check.STATE);
        check.due("22 no line", none.holding(), Check.STATE);
        check.due("23 no line", none.call(0, 0), Check.BAD);
        check.due("24 no line", none.go(0, 0), Check.BAD);
        check.due("25 STATE ahead of BAD", none.walkers(61, 2), Check.STATE);
        TramFaith x = Check.lineOf("t3,0;p0,5,0;");
        check.due("16 person 1", x.where(1, 0), Check.BAD);
        check.due("16 person -1", x.where(-1, 0), Check.BAD);
        check.due("16 d 61", x.where(0, 61), Check.BAD);
        check.due("16 d -1", x.where(0, -1), Check.BAD);
        check.due("17 d 61", x.tram(61), Check.BAD);
        check.due("17 d -1", x.tram(-1), Check.BAD);
        check.due("18 d 61", x.there(61), Check.BAD);
        check.due("18 d -1", x.there(-1), Check.BAD);
        check.due("19 person 1", x.when(1), Check.BAD);
        check.due("19 person -1", x.when(-1), Check.BAD);
        check.due("25 d 61", x.walkers(61, 0), Check.BAD);
        check.due("25 d -1", x.walkers(-1, 0), Check.BAD);
        check.due("25 what 2", x.walkers(0, 2), Check.BAD);
        check.due("25 what -1", x.walkers(0, -1), Check.BAD);
    }

    private static void changesNothing() {
        TramFaith x = Check.lineOf("t4,5;p0,6,3;d2,5,0;");
        x.minutes(1);
        x.where(0, 60);
        x.tram(60);
        x.there(60);
        x.when(0);
        x.all();
        x.never();
        x.call(3, 0);
        x.go(1, 0);
        x.walkers(60, 0);
        check.due("16 to 25 the minute", x.count(3), 1);
        check.due("16 to 25 the acts", x.count(6), 1);
        check.due("16 to 25 where 0 is", x.person(0, 0), 1);
        check.due("16 to 25 where 1 is", x.person(1, 0), 2);
        check.due("16 to 25 how long 1 waited", x.person(1, 3), 1);
        check.due("16 to 25 faith of 1", x.person(1, 1), 5);
    }
}
