/** Promises 26 to 29: what fits a row, RAIN, DAYS. */
public final class ToldTest {
    private static final Check check = new Check();
    private static final int ALL_FAITHS = (1 << 21) - 1;
    private static final int ALL_BOUNDS = (1 << 30) - 1;

    public static void main(String[] args) {
        fits();
        bounds();
        refuses();
        rains();
        draws();
        playsFromNow();
        changesNothing();
        check.end("ToldTest");
    }

    private static TramFaith withRow(int lane) {
        TramFaith x = Check.lineOf("t4,5;p0,6,3;d2,5,0;");
        Check.fillRow(x, 1, lane, 9, 0, 1, 2, 3, -1);
        return x;
    }

    private static void fits() {
        for (int lane = 0; lane < 3; lane++) {
            TramFaith x = withRow(lane);
            check.due("26 faiths of 0, 1 minute", x.fits(0, 1, 1, 1, 0), ALL_FAITHS - 31);
            check.due("26 faiths of 0, 3 minutes", x.fits(0, 1, 1, 3, 0), ALL_FAITHS - 31);
            check.due("26 faiths of 0, 4 minutes", x.fits(0, 1, 1, 4, 0), ALL_FAITHS - 63);
            check.due("26 faiths of 1, 3 minutes", x.fits(1, 1, 1, 3, 0), 127);
            check.due("26 faiths of 1, 4 minutes", x.fits(1, 1, 1, 4, 0), 63);
            check.due("26 sorts of 0", x.fits(0, 1, 1, 4, 1), 46);
            check.due("26 by none", x.fits(0, 1, 0, 4, 0), 0);
            check.due("26 by none of the sorts", x.fits(0, 1, 0, 4, 1), 0);
        }
        TramFaith nowhere = Check.lineOf("t2,5;p0,9,0;");
        Check.fillRow(nowhere, 0, 0, -1, -1, -1, -1, -1, -1, -1, -1, -1, -1, -1, -1, -1, -1, -1, -1);
        check.due("26 -1: nowhere, 16 minutes", nowhere.fits(0, 0, 0, 16, 0), 31);
        check.due("26 sorts by which it is nowhere", nowhere.fits(0, 0, 0, 1, 1), 16);
        nowhere.set(0, 0, 0);
        nowhere.set(0, 1, 0);
        check.due("26 a doubter by his waiting", nowhere.fits(0, 0, 0, 3, 1), 0);
        nowhere.preach(0, 6);
        check.due("26 by a faith of 6", nowhere.fits(0, 0, 0, 3, 1), 8);
        nowhere.minutes(1);
        check.due("26 from this minute on", nowhere.fits(0, 0, 1, 2, 1), 8);
    }

    private static void bounds() {
        TramFaith x = withRow(0);
        check.due("27 4 minutes", x.bounds(1, 1, 4), 127);
        check.due("27 the third alone", x.bounds(1, 4, 1), 0);
        check.due("27 nowhere", x.bounds(1, 5, 1), ALL_BOUNDS - 127);
        x.minutes(2);
        check.due("27 from this minute on", x.bounds(1, 3, 1), 1023);
        TramFaith most = Check.lineOf("t2,40;p1,15,1;p1,14,1;");
        Check.fillRow(most, 0, 1, 1);
        check.due("27 0 to 29", most.bounds(0, 0, 1), ALL_BOUNDS);
        most.preach(0, 14);
        check.due("27 0 to 28", most.bounds(0, 0, 1), ALL_BOUNDS - (1 << 29));
        TramFaith none = Check.lineOf("t2,40;p1,0,1;");
        Check.fillRow(none, 0, 1, -1);
        check.due("27 nowhere by bound 0, too", none.bounds(0, 0, 1), ALL_BOUNDS);
    }

    private static void refuses() {
        TramFaith x = withRow(0);
        check.due("26 person 2", x.fits(2, 1, 0, 1, 0), Check.BAD);
        check.due("26 person -1", x.fits(-1, 1, 0, 1, 0), Check.BAD);
        check.due("26 row 8", x.fits(0, 8, 0, 1, 0), Check.BAD);
        check.due("26 row -1", x.fits(0, -1, 0, 1, 0), Check.BAD);
        check.due("26 n 0", x.fits(0, 1, 0, 0, 0), Check.BAD);
        check.due("26 n 17", x.fits(0, 1, 0, 17, 0), Check.BAD);
        check.due("26 what 2", x.fits(0, 1, 0, 1, 2), Check.BAD);
        check.due("26 what -1", x.fits(0, 1, 0, 1, -1), Check.BAD);
        check.due("26 BAD ahead of NULL", x.fits(0, 0, 0, 1, 2), Check.BAD);
        check.due("26 missing", x.fits(0, 0, 0, 1, 0), Check.NULL);
        check.due("37 of fits, NULL", x.status(), 1);
        check.due("26 beyond the end", x.fits(0, 1, 3, 4, 0), Check.PLACE);
        check.due("37 of fits, PLACE", x.status(), 2);
        check.due("26 to the end", x.fits(0, 1, 2, 4, 0), 0);
        check.due("37 of fits, none", x.status(), 0);
        check.due("26 i -1", x.fits(0, 1, -1, 1, 0), Check.PLACE);
        check.due("26 i max", x.fits(0, 1, Integer.MAX_VALUE, 16, 0), Check.PLACE);
        check.due("27 row 8", x.bounds(8, 0, 1), Check.BAD);
        check.due("27 row -1", x.bounds(-1, 0, 1), Check.BAD);
        check.due("27 n 0", x.bounds(1, 0, 0), Check.BAD);
        check.due("27 n 17", x.bounds(1, 0, 17), Check.BAD);
        check.due("27 missing", x.bounds(0, 0, 1), Check.NULL);
        check.due("27 beyond the end", x.bounds(1, 6, 1), Check.PLACE);
        check.due("27 i -1", x.bounds(1, -1, 1), Check.PLACE);
        check.due("27 i max", x.bounds(1, Integer.MAX_VALUE, 16), Check.PLACE);
        check.due("37 of bounds, PLACE", x.status(), 2);
        x.bounds(1, 0, 17);
        check.due("37 BAD leaves it", x.status(), 2);
        x.bounds(1, 0, 1);
        check.due("37 of bounds, none", x.status(), 0);
        TramFaith none = new TramFaith();
        check.due("26 no line", none.fits(0, 0, 0, 1, 0), Check.BAD);
        check.due("27 STATE ahead of BAD", none.bounds(8, 0, 0), Check.STATE);
        check.due("27 STATE ahead of NULL", none.bounds(0, 0, 1), Check.STATE);
    }

    private static void rain(TramFaith x, String what, int stop, int c, int above, int below) {
        check.due("28 above: " + what, x.rain(stop, c, 0), above);
        check.due("28 below: " + what, x.rain(stop, c, 1), below);
    }

    private static void rains() {
        TramFaith x = Check.lineOf("t3,0;p0,5,1;p1,4,0;");
        rain(x, "the first hopes", 0, 3, 7, 10);
        rain(x, "only the second hopes", 1, 3, 21, 100);
        rain(x, "no rain", 0, 0, 1, 1);
        rain(x, "no rain, the other stop", 1, 0, 0, 1);
        rain(x, "all stay at home", 0, 10, 0, 1);
        rain(x, "lowest terms", 0, 2, 4, 5);
        rain(x, "lowest terms, two", 1, 2, 4, 25);
        rain(x, "a half", 1, 5, 1, 4);
        rain(x, "nobody is there", 2, 5, 0, 1);
        rain(Check.lineOf("t2,0;"), "nobody", 0, 5, 0, 1);
        rain(Check.lineOf("t2,6;c0,5,1;p0,0,1;"), "there for the crowd", 0, 3, 7, 10);
        rain(Check.lineOf("t2,4;s0,0,1;k0,0,1;"), "there for the saint", 0, 3, 49, 100);
        rain(Check.lineOf("t2,18;k0,0,1;k0,0,1;k0,0,1;k0,0,1;k0,0,1;k0,0,1;"), "six", 0, 1, 531441, 1000000);
        TramFaith doubts = Check.lineOf("t2,0;d0,5,0;p1,4,1;");
        doubts.minutes(2);
        rain(doubts, "a doubter who waited", 0, 1, 9, 100);
        check.due("28 stop 3", x.rain(3, 1, 0), Check.BAD);
        check.due("28 stop -1", x.rain(-1, 1, 0), Check.BAD);
        check.due("28 c 11", x.rain(0, 11, 0), Check.BAD);
        check.due("28 c -1", x.rain(0, -1, 0), Check.BAD);
        check.due("28 what 2", x.rain(0, 1, 2), Check.BAD);
        check.due("28 what -1", x.rain(0, 1, -1), Check.BAD);
        check.due("28 no line", new TramFaith().rain(0, 0, 0), Check.BAD);
    }

    /** Nobody walks while a row is laid beside what comes, and each call begins from now. */
    private static void playsFromNow() {
        // if 0 walked, he and the one at 1 would call the tram there
        TramFaith stuck = Check.lineOf("t3,0;p0,5,2;p2,6,2;p1,3,1;");
        Check.fillRow(stuck, 0, 0, 2, 2, 2, 2);
        check.due("27 who does not ride stays", stuck.bounds(0, 0, 4), 127);
        TramFaith x = Check.lineOf("t4,0;p0,0,3;p2,0,0;");
        x.there(60);
        x.drawn(60, 3, 0);
        check.due("29 from now on, whatever was foretold", x.drawn(2, 1, 0), 2);
    }

    private static void draws() {
        TramFaith x = Check.lineOf("t4,0;p0,0,3;p2,0,0;");
        // in the third, 0 rides by the faith of 1, who is THERE where 0 is
        int[] there = {0, 0, 2, 2, 2, 3, 3};
        for (int n = 0; n < there.length; n++) {
            check.due("29 who is there behind " + n, x.drawn(n, 1, 0), there[n]);
            check.due("29 the tram was anywhere in " + n, x.drawn(n, 1, 1), n);
        }
        TramFaith bound = Check.lineOf("t2,10;p0,0,0;");
        int[] anywhere = {0, 0, 0, 0, 1, 2, 3};
        for (int n = 0; n < anywhere.length; n++) {
            check.due("29 by the bound, " + n, bound.drawn(n, 1, 1), anywhere[n]);
        }
        check.due("29 seed 16807 is one draw ahead of seed 1", bound.drawn(3, 16807, 1), 1);
        check.due("29 n 60, seed 999999", bound.drawn(60, 999999, 0), 1);
        check.due("29 nobody", Check.lineOf("t2,0;").drawn(60, 5, 1), 0);
        check.due("29 nobody is there", Check.lineOf("t2,0;").drawn(60, 5, 0), 0);
        check.due("29 n 61", x.drawn(61, 1, 0), Check.BAD);
        check.due("29 n -1", x.drawn(-1, 1, 0), Check.BAD);
        check.due("29 seed 0", x.drawn(1, 0, 0), Check.BAD);
        check.due("29 seed 1000000", x.drawn(1, 1000000, 0), Check.BAD);
        check.due("29 what 2", x.drawn(1, 1, 2), Check.BAD);
        check.due("29 what -1", x.drawn(1, 1, -1), Check.BAD);
        check.due("29 STATE ahead of BAD", new TramFaith().drawn(61, 0, 2), Check.STATE);
    }

    private static void changesNothing() {
        TramFaith x = withRow(0);
        x.fits(0, 1, 0, 4, 0);
        x.fits(0, 1, 0, 4, 1);
        x.bounds(1, 0, 4);
        x.rain(0, 3, 0);
        x.drawn(60, 7, 0);
        check.due("26 to 29 kind", x.kind(0), 1);
        check.due("26 to 29 faith", x.person(0, 1), 6);
        check.due("26 to 29 where", x.person(0, 0), 0);
        check.due("26 to 29 bound", x.count(4), 5);
        check.due("26 to 29 minute", x.count(3), 0);
        check.due("26 to 29 acts", x.count(6), 0);
    }
}
