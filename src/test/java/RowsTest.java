/** Promises 1 to 5, and 37 as far as rows go. */
public final class RowsTest {
    public static void main(String[] args) {
        newObject();
        rows();
        sets();
        copies();
        drops();
        statuses();
        Check.end();
    }

    private static void newObject() {
        SaintHill x = new SaintHill();
        for (int what = 0; what <= 9; what++) {
            Check.due("1 count(" + what + ")", x.count(what), 0);
        }
        for (int row = 0; row < 8; row++) {
            Check.due("1 set of a row that is missing", x.set(row, 0, 1), Check.NULL);
        }
        Check.due("1 fault", x.fault(), 0);
        Check.due("1 trace", x.trace(0), Check.NONE);
        Check.due("1 rests", x.rests(0), Check.STATE);
        Check.due("1 restore", x.restore(0), Check.STATE);
        Check.due("1 undo", x.undo(), Check.STATE);
        Check.due("1 status of a fresh object", new SaintHill().status(), 0);
    }

    private static void rows() {
        SaintHill x = new SaintHill();
        Check.due("2 row 0", x.row(0, 0, 0), 0);
        Check.due("2 row 7 of 40", x.row(7, 2, 40), 40);
        Check.due("2 count", x.count(0), 2);
        Check.due("2 row -1", x.row(-1, 0, 1), Check.BAD);
        Check.due("2 row 8", x.row(8, 0, 1), Check.BAD);
        Check.due("2 lane -1", x.row(0, -1, 1), Check.BAD);
        Check.due("2 lane 3", x.row(0, 3, 1), Check.BAD);
        Check.due("2 41 items", x.row(0, 0, 41), Check.BAD);
        Check.due("2 most items", x.row(0, 0, Integer.MAX_VALUE), Check.BAD);
        Check.due("2 BAD ahead of SIZE, row", x.row(8, 0, -1), Check.BAD);
        Check.due("2 BAD ahead of SIZE, lane", x.row(0, 3, -1), Check.BAD);
        Check.due("2 SIZE", x.row(7, 0, -1), Check.SIZE);
        Check.due("2 SIZE of the least", x.row(1, 0, Integer.MIN_VALUE), Check.SIZE);
        Check.due("2 what is found changes nothing: still 40 ints", x.set(7, 39, 1 << 20), 1 << 20);
        Check.due("2 what is found makes no row", x.count(0), 2);
        Check.due("2 in place of what is there", x.row(7, 1, 40), 40);
        SaintHill y = Check.told("c2,3,0,5,1,1;d1,3,0;");
        Check.row(y, 0, 7, 7, 7);
        y.row(0, 2, 3);
        Check.due("2 items are 0 at first, anew too", y.rolls(0, 0, 3, 0), 1 << 3);
        Check.due("2 the new lane holds", x.set(7, 39, 70000), 4464);
        Check.due("2 a lesser row", x.row(7, 1, 2), 2);
        Check.due("2 the lesser row ends there", x.set(7, 2, 0), Check.PLACE);
    }

    private static void sets() {
        SaintHill x = new SaintHill();
        x.row(0, 0, 3);
        x.row(1, 1, 3);
        x.row(2, 2, 3);
        Check.due("3 byte 127", x.set(0, 0, 127), 127);
        Check.due("3 byte 128", x.set(0, 0, 128), -128);
        Check.due("3 byte -129", x.set(0, 2, -129), 127);
        Check.due("3 byte 256", x.set(0, 2, 256), 0);
        Check.due("3 short 32767", x.set(1, 0, 32767), 32767);
        Check.due("3 short 32768", x.set(1, 2, 32768), -32768);
        Check.due("3 short 65536", x.set(1, 2, 65536), 0);
        Check.due("3 int", x.set(2, 2, Integer.MIN_VALUE), Integer.MIN_VALUE);
        Check.due("3 PLACE 3", x.set(2, 3, 0), Check.PLACE);
        Check.due("3 PLACE -1", x.set(2, -1, 0), Check.PLACE);
        Check.due("3 PLACE most", x.set(2, Integer.MAX_VALUE, 0), Check.PLACE);
        Check.due("3 NULL", x.set(3, 0, 0), Check.NULL);
        Check.due("3 NULL ahead of PLACE", x.set(3, -1, 0), Check.NULL);
        Check.due("3 BAD 8", x.set(8, 0, 0), Check.BAD);
        Check.due("3 BAD -1", x.set(-1, 0, 0), Check.BAD);
        x.row(4, 0, 0);
        Check.due("3 PLACE of an empty row", x.set(4, 0, 0), Check.PLACE);
    }

    /** Tells by rolls() whether a row's first items are 1, 2, 3 ..: the hill has a house in each year's way. */
    private static void items(String of, SaintHill x, int row, int... items) {
        SaintHill y = x;
        for (int i = 0; i < items.length; i++) {
            Check.due(of + " item " + i + " is " + items[i], y.rolls(row, i, 1, 0), 1 << items[i]);
        }
    }

    private static void copies() {
        SaintHill x = Check.told("c2,0,0,5,1,1;m1,0,0;m1,1,0;m1,2,0;m1,3,0;m1,4,0;m1,5,0;");
        Check.row(x, 0, 0, 1, 2, 3, 4, 5);
        Check.due("4 forward within", x.copy(0, 0, 0, 1, 4), 4);
        items("4 forward within", x, 0, 0, 0, 1, 2, 3, 5);
        Check.row(x, 0, 0, 1, 2, 3, 4, 5);
        Check.due("4 backward within", x.copy(0, 2, 0, 0, 4), 4);
        items("4 backward within", x, 0, 2, 3, 4, 5, 4, 5);
        Check.row(x, 1, 5, 5, 5);
        Check.due("4 to another", x.copy(0, 0, 1, 1, 2), 2);
        items("4 to another", x, 1, 5, 2, 3);
        Check.due("4 none at the ends", x.copy(0, 6, 1, 3, 0), 0);
        Check.due("4 all", x.copy(1, 0, 0, 3, 3), 3);
        items("4 all", x, 0, 2, 3, 4, 5, 2, 3);
        Check.due("4 beyond the end of a", x.copy(1, 1, 0, 0, 3), Check.PLACE);
        Check.due("4 beyond the end of b", x.copy(0, 0, 1, 1, 3), Check.PLACE);
        Check.due("4 none beyond the end of a", x.copy(0, 7, 1, 0, 0), Check.PLACE);
        Check.due("4 none beyond the end of b", x.copy(0, 0, 1, 4, 0), Check.PLACE);
        Check.due("4 i below 0", x.copy(0, -1, 1, 0, 1), Check.PLACE);
        Check.due("4 j below 0", x.copy(0, 0, 1, -1, 1), Check.PLACE);
        Check.due("4 n below 0", x.copy(0, 1, 1, 1, -1), Check.PLACE);
        Check.due("4 i and n wrap", x.copy(0, Integer.MAX_VALUE, 1, 0, Integer.MAX_VALUE), Check.PLACE);
        Check.due("4 n wraps", x.copy(0, 1, 1, 1, Integer.MAX_VALUE), Check.PLACE);
        items("4 what is found changes nothing", x, 1, 5, 2, 3);
        x.row(2, 1, 3);
        Check.due("4 STORE", x.copy(0, 0, 2, 0, 1), Check.STORE);
        Check.due("4 STORE of none", x.copy(2, 0, 0, 0, 0), Check.STORE);
        Check.due("4 STORE ahead of PLACE", x.copy(0, -1, 2, 9, -1), Check.STORE);
        Check.due("4 NULL a", x.copy(3, 0, 0, 0, 1), Check.NULL);
        Check.due("4 NULL b", x.copy(0, 0, 3, 0, 1), Check.NULL);
        Check.due("4 NULL ahead of PLACE", x.copy(3, -1, 0, -1, -1), Check.NULL);
        Check.due("4 NULL ahead of STORE", x.copy(2, 0, 3, 0, 0), Check.NULL);
        Check.due("4 BAD a", x.copy(8, 0, 0, 0, 1), Check.BAD);
        Check.due("4 BAD b", x.copy(3, 0, -1, 0, 1), Check.BAD);
    }

    private static void drops() {
        SaintHill x = new SaintHill();
        x.row(5, 1, 17);
        Check.due("5 drop", x.drop(5), 17);
        Check.due("5 missing from now on", x.drop(5), Check.NULL);
        Check.due("5 count", x.count(0), 0);
        x.row(5, 1, 0);
        Check.due("5 an empty row", x.drop(5), 0);
        Check.due("5 BAD", x.drop(8), Check.BAD);
        Check.due("5 BAD below", x.drop(-1), Check.BAD);
    }

    private static void statuses() {
        SaintHill x = Check.told("c2,3,0,5,1,1;d1,3,0;");
        x.drop(0);
        Check.due("37 NULL", x.status(), 1);
        x.row(9, 0, 0);
        x.set(9, 0, 0);
        x.copy(0, 0, 9, 0, 0);
        x.drop(9);
        x.rolls(0, 0, 0, 0);
        x.sorts(1, 0, 0, 1);
        x.as(1, 0);
        Check.due("37 BAD does not count", x.status(), 1);
        x.rests(0);
        x.years(1);
        x.ask(0, 0);
        Check.due("37 other calls do not count", x.status(), 1);
        x.row(0, 0, 4);
        Check.due("37 row had none", x.status(), 0);
        x.row(0, 0, -4);
        Check.due("37 SIZE", x.status(), 4);
        Check.due("37 status itself changes nothing", x.status(), 4);
        x.set(0, 3, 1);
        Check.due("37 set had none", x.status(), 0);
        x.set(0, 4, 1);
        Check.due("37 PLACE", x.status(), 2);
        x.copy(0, 0, 0, 0, 4);
        Check.due("37 copy had none", x.status(), 0);
        x.row(1, 1, 4);
        x.copy(0, 0, 1, 0, 4);
        Check.due("37 STORE", x.status(), 5);
        x.drop(1);
        Check.due("37 drop had none", x.status(), 0);
        x.as(0, 4);
        Check.due("37 KIND", x.status(), 3);
        x.as(0, 1);
        Check.due("37 as had none", x.status(), 0);
        x.rolls(1, 0, 1, 0);
        Check.due("37 rolls NULL", x.status(), 1);
        x.rolls(0, 0, 1, 0);
        Check.due("37 rolls had none", x.status(), 0);
        x.sorts(0, 0, 4, 1);
        Check.due("37 sorts PLACE", x.status(), 2);
        x.sorts(0, 0, 3, 1);
        Check.due("37 sorts had none", x.status(), 0);
        SaintHill y = new SaintHill();
        y.drop(0);
        y.rolls(0, 0, 1, 0);
        Check.due("37 STATE does not count", y.status(), 1);
    }
}
