/** Promises 1 and 30 to 37: a new object, IMAGES, KINDS, ASKS, counts, status. */
public final class AskedTest {
    private static final Check check = new Check();
    private static final String ALL_KINDS = "t4,40;p0,6,0;c0,5,0;d0,4,0;k0,3,0;s0,2,0;";

    public static void main(String[] args) {
        isNew();
        keepsImages();
        tellsKinds();
        answers();
        keepsTheTrace();
        counts();
        check.end("AskedTest");
    }

    private static void isNew() {
        TramFaith x = new TramFaith();
        for (int what = 0; what < 8; what++) {
            check.due("1 count " + what, x.count(what), 0);
        }
        check.due("1 no line", x.all(), Check.STATE);
        check.due("1 no fault", x.fault(), 0);
        check.due("1 no status", x.status(), 0);
        check.due("1 no trace", x.trace(0), Check.NONE);
        check.due("1 no image", x.restore(0), Check.STATE);
        check.due("1 no image, either", x.restore(1), Check.STATE);
        for (int row = 0; row < 8; row++) {
            check.due("1 rows are missing", x.drop(row), Check.NULL);
        }
        Check.lineOf("t2,0;p0,0,0;").row(0, 0, 1);
        check.due("1 nothing of another object", x.count(0) + x.count(1), 0);
    }

    private static void keepsImages() {
        TramFaith x = new TramFaith();
        check.due("30 no line", x.image(0), Check.STATE);
        check.due("30 BAD ahead of STATE", x.image(2), Check.BAD);
        check.due("31 BAD ahead of STATE", x.restore(-1), Check.BAD);
        Check.type(x, "t4,5;p0,6,3;d2,5,0;");
        x.minutes(2);
        check.due("30 an image", x.image(1), 1);
        check.due("30 changes no act", x.count(6), 2);
        check.due("31 the other image", x.restore(0), Check.STATE);
        x.minutes(1);
        x.preach(0, 1);
        x.wish(1, 3);
        Check.type(x, "t2,0;k1,1,1;");
        check.due("30 the other image", x.image(0), 1);
        check.due("31 as it was", x.restore(1), 1);
        check.due("31 stops", x.count(1), 4);
        check.due("31 people", x.count(2), 2);
        check.due("31 minute", x.count(3), 2);
        check.due("31 bound", x.count(4), 5);
        check.due("31 no act can be undone", x.undo(), Check.STATE);
        int[][] due = {{2, 6, 3, 0, 6}, {2, 5, 0, 2, 3}};
        for (int p = 0; p < 2; p++) {
            check.due("31 kind of " + p, x.kind(p), p == 0 ? 1 : 3);
            for (int what = 0; what < 5; what++) {
                check.due("31 " + what + " of " + p, x.person(p, what), due[p][what]);
            }
        }
        x.minutes(3);
        check.due("30 image 2", x.image(2), Check.BAD);
        check.due("30 image -1", x.image(-1), Check.BAD);
        check.due("31 image 2", x.restore(2), Check.BAD);
        check.due("31 image 3", x.restore(3), Check.BAD);
        check.due("31 what is refused leaves the acts", x.count(6), 3);
        check.due("31 again", x.restore(1), 1);
        check.due("31 the acts are forgotten", x.count(6), 0);
        check.due("31 the image stays as it was", x.count(3), 2);
        check.due("31 image 0", x.restore(0), 1);
        check.due("31 stops of it", x.count(1), 2);
        check.due("31 kind of it", x.kind(0), 4);
        Check.type(x, "t8,0;");
        check.due("30 in place of an image", x.image(0), 1);
        x.restore(1);
        x.restore(0);
        check.due("31 stops of that", x.count(1), 8);
        check.due("31 people of that", x.count(2), 0);
    }

    private static void tellsKinds() {
        TramFaith x = Check.lineOf(ALL_KINDS);
        int[] sets = {1 + 2, 1 + 2 + 4, 1 + 2 + 8, 1 + 16, 1 + 16 + 32};
        for (int p = 0; p < 5; p++) {
            check.due("32 kind of " + p, x.kind(p), p + 1);
            for (int kind = 0; kind <= 5; kind++) {
                boolean isOne = (sets[p] >> kind & 1) == 1;
                check.due("33 " + p + " as " + kind, x.as(p, kind), isOne ? p : Check.KIND);
                check.due("37 of " + p + " as " + kind, x.status(), isOne ? 0 : 3);
            }
        }
        x.as(0, 5);
        check.due("33 kind 6", x.as(0, 6), Check.BAD);
        check.due("33 kind -1", x.as(0, -1), Check.BAD);
        check.due("33 person 5", x.as(5, 0), Check.BAD);
        check.due("33 person -1", x.as(-1, 0), Check.BAD);
        check.due("37 BAD leaves it", x.status(), 3);
        check.due("32 person 5", x.kind(5), Check.BAD);
        check.due("32 person -1", x.kind(-1), Check.BAD);
        check.due("32 no line", new TramFaith().kind(0), Check.BAD);
    }

    private static void ask(TramFaith x, int person, int what, int answer, int... bodies) {
        check.due("34 ask " + what + " of " + person, x.ask(person, what), answer);
        for (int i = 0; i < bodies.length; i++) {
            check.due("35 trace " + i + " of ask " + what + " of " + person, x.trace(i), bodies[i]);
        }
        check.due("35 the end of ask " + what + " of " + person, x.trace(bodies.length), Check.NONE);
    }

    private static void answers() {
        TramFaith x = Check.lineOf(ALL_KINDS);
        x.minutes(2);
        ask(x, 0, 0, 8, 11, 10, 21, 20);
        ask(x, 0, 1, 2, 21, 20);
        ask(x, 1, 0, -11, 12, 11, 10, 24, 21, 20);
        ask(x, 1, 1, 6, 24, 21, 20);
        ask(x, 2, 0, -992, 11, 10, 22, 21, 20);
        ask(x, 2, 1, -996, 22, 21, 20);
        ask(x, 3, 0, -97, 13, 10);
        ask(x, 3, 1, 100, 23, 20, 13, 10);
        ask(x, 4, 0, -196, 14, 13, 10);
        ask(x, 4, 1, 200, 23, 20, 14, 13, 10);
        x.preach(4, 20);
        ask(x, 4, 0, -160, 14, 13, 10);
    }

    private static void keepsTheTrace() {
        TramFaith x = Check.lineOf(ALL_KINDS);
        x.ask(3, 0);
        check.due("34 what 2", x.ask(0, 2), Check.BAD);
        check.due("34 what -1", x.ask(0, -1), Check.BAD);
        check.due("34 person 5", x.ask(5, 0), Check.BAD);
        check.due("34 person -1", x.ask(-1, 0), Check.BAD);
        check.due("35 what is refused leaves it", x.trace(0), 13);
        Check.type(x, "t2,0;");
        check.due("35 another line leaves it", x.trace(1), 10);
        check.due("35 -1", x.trace(-1), Check.NONE);
        check.due("35 16", x.trace(16), Check.NONE);
        check.due("35 max", x.trace(Integer.MAX_VALUE), Check.NONE);
        check.due("35 min", x.trace(Integer.MIN_VALUE), Check.NONE);
    }

    private static void counts() {
        TramFaith x = Check.lineOf("t7,9;p0,20,1;k3,0,3;");
        x.row(3, 0, 0);
        x.row(5, 0, 0);
        x.row(5, 1, 7);
        x.minutes(3);
        x.feed(1);
        int[] due = {2, 7, 2, 3, 9, 3, 3, 1};
        for (int what = 0; what < due.length; what++) {
            check.due("36 count " + what, x.count(what), due[what]);
        }
        check.due("36 8", x.count(8), Check.BAD);
        check.due("36 -1", x.count(-1), Check.BAD);
    }
}
