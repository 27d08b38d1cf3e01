/** Promises 9 to 15: MINUTES, walking, preaching, wishes, what is undone, one, a STOP. */
public final class ActsTest {
    private static final Check check = new Check();

    public static void main(String[] args) {
        passes();
        endsAtLastMinute();
        waitsAtMost();
        walks();
        preaches();
        wishes();
        undoes();
        forgetsTheOldest();
        hopes();
        tellsStops();
        check.end("ActsTest");
    }

    private static void one(TramFaith x, String what, int person, int stop, int waited) {
        check.due("9 " + what + ": where " + person + " is", x.person(person, 0), stop);
        check.due("9 " + what + ": how long " + person + " waited", x.person(person, 3), waited);
    }

    private static void passes() {
        TramFaith none = new TramFaith();
        check.due("9 STATE ahead of BAD", none.minutes(0), Check.STATE);
        check.due("9 no line", none.minutes(1), Check.STATE);
        TramFaith x = Check.lineOf("t4,5;p0,6,3;d2,5,0;");
        check.due("9 0", x.minutes(0), Check.BAD);
        check.due("9 25", x.minutes(25), Check.BAD);
        check.due("9 -1", x.minutes(-1), Check.BAD);
        check.due("9 first", x.minutes(1), 0);
        one(x, "first", 0, 1, 0);
        one(x, "first", 1, 2, 1);
        check.due("9 second", x.minutes(1), 0);
        one(x, "second", 0, 2, 0);
        one(x, "second", 1, 2, 2);
        // the doubter hopes by 3 yet, and rides since the tram is where he is
        check.due("9 third", x.minutes(1), 1);
        one(x, "third", 0, 3, 0);
        one(x, "third", 1, 1, 0);
        check.due("9 four more", x.minutes(4), 1);
        one(x, "seventh", 0, 3, 4);
        one(x, "seventh", 1, 1, 4);
        check.due("9 the minute", x.count(3), 7);
        check.due("9 an act each", x.count(6), 7);
        check.due("9 nobody", Check.lineOf("t2,0;").minutes(24), 0);
    }

    private static void endsAtLastMinute() {
        TramFaith x = Check.lineOf("t2,0;p0,1,0;");
        for (int i = 0; i < 41; i++) {
            x.minutes(24);
        }
        check.due("9 minute 984", x.count(3), 984);
        check.due("9 beyond 999", x.minutes(16), Check.FULL);
        check.due("9 none of them passed", x.count(3), 984);
        check.due("9 BAD ahead of FULL", x.minutes(25), Check.BAD);
        check.due("9 to 999", x.minutes(15), 1);
        check.due("9 one more", x.minutes(1), Check.FULL);
        check.due("9 999", x.count(3), 999);
        check.due("9 foretold beyond it", x.there(60), 1);
        x.undo();
        check.due("9 one undone, one more", x.minutes(1), 1);
    }

    private static void waitsAtMost() {
        TramFaith x = Check.lineOf("t2,0;p0,1,0;");
        for (int i = 0; i < 4; i++) {
            x.minutes(24);
        }
        x.minutes(2);
        check.due("9 waited 98", x.person(0, 3), 98);
        x.minutes(1);
        check.due("9 waited 99", x.person(0, 3), 99);
        x.minutes(1);
        check.due("9 99 at most", x.person(0, 3), 99);
    }

    private static void walks() {
        TramFaith x = Check.lineOf("t3,0;d0,0,2;");
        x.minutes(2);
        check.due("10 no stop below", x.walk(0, 0), Check.STATE);
        check.due("10 refused: waited", x.person(0, 3), 2);
        check.due("10 refused: no act", x.count(6), 2);
        check.due("10 up", x.walk(0, 1), 1);
        check.due("10 waited 0", x.person(0, 3), 0);
        check.due("10 an act", x.count(6), 3);
        check.due("10 no minute", x.count(3), 2);
        check.due("10 up again", x.walk(0, 1), 2);
        check.due("10 there", x.count(5), 1);
        check.due("10 no stop above", x.walk(0, 1), Check.STATE);
        check.due("10 down", x.walk(0, 0), 1);
        check.due("10 up 2", x.walk(0, 2), Check.BAD);
        check.due("10 up -1", x.walk(0, -1), Check.BAD);
        check.due("10 person 1", x.walk(1, 1), Check.BAD);
        check.due("10 person -1", x.walk(-1, 1), Check.BAD);
        check.due("10 no line", new TramFaith().walk(0, 1), Check.BAD);
    }

    private static void preaches() {
        TramFaith x = Check.lineOf("t3,0;p0,7,2;");
        x.minutes(1);
        x.walk(0, 0);
        x.minutes(1);
        check.due("11 was 7", x.preach(0, 0), 7);
        check.due("11 is 0", x.person(0, 1), 0);
        check.due("11 was 0", x.preach(0, 20), 0);
        check.due("11 is 20", x.person(0, 1), 20);
        check.due("11 acts", x.count(6), 5);
        check.due("11 21", x.preach(0, 21), Check.BAD);
        check.due("11 -1", x.preach(0, -1), Check.BAD);
        check.due("11 person 1", x.preach(1, 5), Check.BAD);
        check.due("11 person -1", x.preach(-1, 5), Check.BAD);
        check.due("11 refused: no act", x.count(6), 5);
        x.preach(0, 0);
        x.minutes(3);
        x.preach(0, 1);
        check.due("11 he has waited all the same", x.person(0, 3), 3);
    }

    private static void wishes() {
        TramFaith x = Check.lineOf("t3,0;p1,7,2;");
        check.due("12 wanted 2", x.wish(0, 1), 2);
        check.due("12 there", x.count(5), 1);
        check.due("12 wanted 1", x.wish(0, 0), 1);
        check.due("12 wants 0", x.person(0, 2), 0);
        check.due("12 rides to it", x.minutes(1), 1);
        check.due("12 acts", x.count(6), 3);
        check.due("12 stop 3", x.wish(0, 3), Check.BAD);
        check.due("12 stop -1", x.wish(0, -1), Check.BAD);
        check.due("12 person 1", x.wish(1, 0), Check.BAD);
        check.due("12 person -1", x.wish(-1, 0), Check.BAD);
        check.due("12 refused: no act", x.count(6), 3);
    }

    private static void undoes() {
        TramFaith x = Check.lineOf("t4,0;p0,5,3;d2,3,0;");
        check.due("13 none", x.undo(), Check.STATE);
        x.minutes(2);
        x.preach(0, 9);
        x.wish(1, 3);
        x.walk(1, 0);
        check.due("13 the walk", x.undo(), 4);
        check.due("13 he is back", x.person(1, 0), 2);
        check.due("13 and has waited", x.person(1, 3), 2);
        check.due("13 the wish", x.undo(), 3);
        check.due("13 he wants 0", x.person(1, 2), 0);
        check.due("13 the other wants 3", x.person(0, 2), 3);
        check.due("13 the faith", x.undo(), 2);
        check.due("13 it is 5", x.person(0, 1), 5);
        check.due("13 a minute", x.undo(), 1);
        check.due("13 minute 1", x.count(3), 1);
        check.due("13 he is at 1", x.person(0, 0), 1);
        check.due("13 the other waited 1", x.person(1, 3), 1);
        check.due("13 the first", x.undo(), 0);
        check.due("13 he is at 0", x.person(0, 0), 0);
        check.due("13 none is left", x.undo(), Check.STATE);
        check.due("13 no line", new TramFaith().undo(), Check.STATE);
    }

    private static void forgetsTheOldest() {
        TramFaith x = Check.lineOf("t2,40;p0,0,1;");
        for (int v = 1; v <= 20; v++) {
            x.preach(0, v);
        }
        x.minutes(12);
        check.due("13 24 are kept", x.count(6), 24);
        for (int left = 23; left >= 0; left--) {
            check.due("13 left", x.undo(), left);
        }
        check.due("13 8 are forgotten", x.person(0, 1), 8);
        check.due("13 the minute", x.count(3), 0);
        check.due("13 none", x.undo(), Check.STATE);
        x.preach(0, 3);
        check.due("13 one anew", x.undo(), 0);
        check.due("13 as it was", x.person(0, 1), 8);
    }

    private static void hopes() {
        TramFaith x = Check.lineOf("t4,40;p0,7,0;c0,2,0;d0,2,0;k0,9,0;s0,9,0;s1,0,1;");
        int[] due = {7, 6, 2, 3, 3, 13};
        for (int p = 0; p < 6; p++) {
            check.due("14 hope of " + p, x.person(p, 4), due[p]);
        }
        check.due("15 hope of all", x.stop(0, 0), 21);
        x.minutes(1);
        check.due("14 a doubter waited 1", x.person(2, 4), 1);
        x.minutes(1);
        check.due("14 a doubter waited 2", x.person(2, 4), 0);
        x.minutes(1);
        check.due("14 0 at least", x.person(2, 4), 0);
        check.due("14 what 3", x.person(2, 3), 3);
        x.walk(1, 1);
        check.due("14 the crowd is one", x.person(1, 4), 3);
        check.due("14 the saint has somebody", x.person(5, 4), 3);
        x.walk(1, 1);
        check.due("14 the crowd is nobody", x.person(1, 4), 2);
        check.due("14 the saint has nobody", x.person(5, 4), 13);
        check.due("14 what 5", x.person(0, 5), Check.BAD);
        check.due("14 what -1", x.person(0, -1), Check.BAD);
        check.due("14 person 6", x.person(6, 0), Check.BAD);
        check.due("14 person -1", x.person(-1, 0), Check.BAD);
        check.due("14 no line", new TramFaith().person(0, 0), Check.BAD);
    }

    private static void tellsStops() {
        TramFaith x = Check.lineOf("t3,40;p0,7,0;c2,2,0;p0,1,0;");
        check.due("15 hope at 0", x.stop(0, 0), 8);
        check.due("15 who is at 0", x.stop(0, 1), 5);
        check.due("15 hope at 1", x.stop(1, 0), 0);
        check.due("15 who is at 1", x.stop(1, 1), 0);
        check.due("15 hope at 2", x.stop(2, 0), 2);
        check.due("15 who is at 2", x.stop(2, 1), 2);
        check.due("15 stop 3", x.stop(3, 0), Check.BAD);
        check.due("15 stop -1", x.stop(-1, 0), Check.BAD);
        check.due("15 what 2", x.stop(0, 2), Check.BAD);
        check.due("15 what -1", x.stop(0, -1), Check.BAD);
        check.due("15 no line", new TramFaith().stop(0, 0), Check.BAD);
    }
}
