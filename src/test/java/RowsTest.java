/** Promises 2 to 5: ROWS; 37 as far as they leave a FINDING. */
public final class RowsTest {
    private static final Check check = new Check();

    public static void main(String[] args) {
        makes();
        sets();
        copies();
        drops();
        keepsStatus();
        check.end("RowsTest");
    }

    private static void makes() {
        TramFaith x = new TramFaith();
        for (int row = 0; row < 8; row++) {
            check.due("2 row of its number", x.row(row, row % 3, 5 * row), 5 * row);
            check.due("2 rows there are", x.count(0), row + 1);
        }
        check.due("2 row 8", x.row(8, 0, 1), Check.BAD);
        check.due("2 row -1", x.row(-1, 0, 1), Check.BAD);
        check.due("2 lane 3", x.row(0, 3, 1), Check.BAD);
        check.due("2 lane -1", x.row(0, -1, 1), Check.BAD);
        check.due("2 n 41", x.row(0, 0, 41), Check.BAD);
        check.due("2 n max", x.row(0, 0, Integer.MAX_VALUE), Check.BAD);
        check.due("2 n 40", x.row(0, 0, 40), 40);
        check.due("2 its last item is there", x.set(0, 39, 7), 7);
        check.due("2 n -1", x.row(0, 0, -1), Check.SIZE);
        check.due("2 n min", x.row(0, 0, Integer.MIN_VALUE), Check.SIZE);
        check.due("2 BAD ahead of SIZE", x.row(0, 3, -1), Check.BAD);
        check.due("2 a finding leaves the row", x.drop(0), 40);
        check.due("2 n 0", x.row(0, 2, 0), 0);
        check.due("2 no item of none", x.set(0, 0, 1), Check.PLACE);
        startsAtZero();
    }

    private static void startsAtZero() {
        TramFaith x = Check.lineOf("t3,0;p1,5,1;");
        Check.fillRow(x, 0, 2, 1, 1, 1);
        check.due("2 a row of ones fits", x.bounds(0, 0, 3), 63);
        x.row(0, 2, 3);
        check.due("2 in place of it all items are 0", x.bounds(0, 0, 3), 0);
        x.wish(0, 0);
        x.walk(0, 0);
        check.due("2 and fit a tram at 0", x.bounds(0, 0, 3), 63);
    }

    private static void sets() {
        TramFaith x = new TramFaith();
        x.row(0, 0, 3);
        x.row(1, 1, 3);
        x.row(2, 2, 3);
        check.due("3 byte 127", x.set(0, 0, 127), 127);
        check.due("3 byte 128", x.set(0, 1, 128), -128);
        check.due("3 byte 511", x.set(0, 2, 511), -1);
        check.due("3 short 32767", x.set(1, 0, 32767), 32767);
        check.due("3 short 32768", x.set(1, 1, 32768), -32768);
        check.due("3 short -65537", x.set(1, 2, -65537), -1);
        check.due("3 int min", x.set(2, 0, Integer.MIN_VALUE), Integer.MIN_VALUE);
        check.due("3 int max", x.set(2, 2, Integer.MAX_VALUE), Integer.MAX_VALUE);
        check.due("3 place -1", x.set(0, -1, 0), Check.PLACE);
        check.due("3 place 3", x.set(0, 3, 0), Check.PLACE);
        check.due("3 place max", x.set(0, Integer.MAX_VALUE, 0), Check.PLACE);
        check.due("3 place min", x.set(0, Integer.MIN_VALUE, 0), Check.PLACE);
        check.due("3 missing", x.set(3, 0, 0), Check.NULL);
        check.due("3 NULL ahead of PLACE", x.set(3, -1, 0), Check.NULL);
        check.due("3 row -1", x.set(-1, 0, 0), Check.BAD);
        check.due("3 row 8", x.set(8, 0, 0), Check.BAD);
    }

    private static void copies() {
        TramFaith x = Check.lineOf("t4,0;p0,9,3;");
        Check.fillRow(x, 0, 0, 0, 1, 2, 3, -1);
        Check.fillRow(x, 1, 0, -1, -1, -1, -1, -1, -1);
        check.due("4 between rows", x.copy(0, 0, 1, 2, 4), 4);
        check.due("4 the copy is told", x.bounds(1, 2, 4), 1023);
        check.due("4 what is ahead of it stays", x.bounds(1, 1, 4), 0);
        check.due("4 behind: up by one", x.copy(0, 0, 0, 1, 4), 4);
        check.due("4 as they were ahead, upwards", x.bounds(0, 1, 4), 1023);
        check.due("4 down by one", x.copy(0, 1, 0, 0, 4), 4);
        check.due("4 as they were ahead, downwards", x.bounds(0, 0, 4), 1023);
        check.due("4 none", x.copy(0, 5, 1, 6, 0), 0);
        check.due("4 beyond the end of a by 1", x.copy(0, 1, 1, 0, 5), Check.PLACE);
        check.due("4 beyond the end of b by 1", x.copy(0, 0, 1, 2, 5), Check.PLACE);
        check.due("4 none, but beyond a", x.copy(0, 6, 1, 0, 0), Check.PLACE);
        check.due("4 none, but beyond b", x.copy(0, 0, 1, 7, 0), Check.PLACE);
        check.due("4 i -1", x.copy(0, -1, 1, 0, 1), Check.PLACE);
        check.due("4 j -1", x.copy(0, 0, 1, -1, 1), Check.PLACE);
        check.due("4 n -1", x.copy(0, 0, 1, 0, -1), Check.PLACE);
        check.due("4 i and n beyond all", x.copy(0, Integer.MAX_VALUE, 1, 0, Integer.MAX_VALUE), Check.PLACE);
        check.due("4 n min", x.copy(0, 0, 1, 0, Integer.MIN_VALUE), Check.PLACE);
        x.row(2, 1, 9);
        check.due("4 two lanes", x.copy(0, 0, 2, 0, 1), Check.STORE);
        check.due("4 STORE for none, too", x.copy(2, 0, 0, 0, 0), Check.STORE);
        check.due("4 STORE ahead of PLACE", x.copy(0, -1, 2, 0, 1), Check.STORE);
        check.due("4 NULL ahead of PLACE", x.copy(0, -1, 3, 0, 1), Check.NULL);
        check.due("4 a is missing", x.copy(3, 0, 0, 0, 1), Check.NULL);
        check.due("4 a is no row", x.copy(8, 0, 0, 0, 1), Check.BAD);
        check.due("4 b is no row", x.copy(0, 0, -1, 0, 1), Check.BAD);
        check.due("4 BAD ahead of NULL", x.copy(3, 0, 8, 0, 1), Check.BAD);
    }

    private static void drops() {
        TramFaith x = new TramFaith();
        x.row(7, 2, 40);
        check.due("5 items it had", x.drop(7), 40);
        check.due("5 none are there", x.count(0), 0);
        check.due("5 missing", x.drop(7), Check.NULL);
        check.due("5 set in it", x.set(7, 0, 0), Check.NULL);
        check.due("5 row 8", x.drop(8), Check.BAD);
        check.due("5 row -1", x.drop(-1), Check.BAD);
        x.row(7, 0, 0);
        check.due("5 a row without items", x.drop(7), 0);
    }

    private static void keepsStatus() {
        TramFaith x = new TramFaith();
        check.due("37 there was none", x.status(), 0);
        x.drop(0);
        check.due("37 NULL", x.status(), 1);
        x.drop(8);
        check.due("37 BAD leaves it", x.status(), 1);
        x.bounds(0, 0, 1);
        check.due("37 STATE leaves it", x.status(), 1);
        x.row(0, 0, 2);
        check.due("37 row without a finding", x.status(), 0);
        x.set(0, 2, 0);
        check.due("37 PLACE", x.status(), 2);
        x.count(0);
        x.feed(65);
        x.undo();
        check.due("37 calls without a row leave it", x.status(), 2);
        x.set(0, 1, 0);
        check.due("37 set without a finding", x.status(), 0);
        x.row(0, 0, -1);
        check.due("37 SIZE", x.status(), 4);
        x.copy(0, 0, 0, 1, 1);
        check.due("37 copy without a finding", x.status(), 0);
        x.row(1, 1, 2);
        x.copy(0, 0, 1, 0, 1);
        check.due("37 STORE", x.status(), 5);
        x.drop(1);
        check.due("37 drop without a finding", x.status(), 0);
    }
}
