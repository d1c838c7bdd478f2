/** Section 1 of the document, promises 1 to 5, 36 and 37: ROWS that are missing, empty and full, and their ITEMS. */
public final class RowEdgesTest {
    /** From LINE n it comes to rest at HOUSE n, from LINE 6 on the FLAT: so rolls() tells what a ROW has. */
    private static final String READER = "c2,0,0,9,1,1;m1,0,0;m1,1,0;m1,2,0;m1,3,0;m1,4,0;m1,5,0;";

    public static void main(String[] args) {
        missingAtFirst();
        fromNoneToForty();
        inPlaceOfWhatIsThere();
        lowestBits();
        copiesOfEachSize();
        copiesWithin();
        copiesOfEachLane();
        copiesThatAreFound();
        dropped();
        howMany();
        statusOfEachCall();
        Check.end();
    }

    /** An ITEM is 0 to 5, or -1. */
    private static void item(String of, SaintHill x, int row, int i, int due) {
        Check.due(of + ": ITEM " + i + " is " + due, x.rolls(row, i, 1, 0), 1 << (due < 0 ? 6 : due));
    }

    private static void items(String of, SaintHill x, int row, int... due) {
        for (int i = 0; i < due.length; i++) {
            item(of, x, row, i, due[i]);
        }
        Check.due(of + ": no more ITEMS", x.rolls(row, due.length, 1, 0), Check.PLACE);
    }

    /** "ROWS 0 .. 7 are missing (at first)". */
    private static void missingAtFirst() {
        SaintHill x = Check.told(READER);
        for (int row = 0; row <= 7; row++) {
            Check.due("3 set, missing", x.set(row, 0, 0), Check.NULL);
            Check.due("4 copy, missing", x.copy(row, 0, row, 0, 0), Check.NULL);
            Check.due("5 drop, missing", x.drop(row), Check.NULL);
            Check.due("26 rolls, missing", x.rolls(row, 0, 1, 0), Check.NULL);
            Check.due("27 sorts, missing", x.sorts(0, row, 0, 1), Check.NULL);
            Check.due("37 the number of it", x.status(), 1);
        }
        Check.due("36 none is there", x.count(0), 0);
    }

    /** "0 to 40 ITEMS, 0 at first". */
    private static void fromNoneToForty() {
        for (int lane = 0; lane <= 2; lane++) {
            for (int n = 0; n <= 40; n++) {
                SaintHill x = Check.told(READER);
                Check.due("2 ITEMS", x.row(7, lane, n), n);
                Check.due("36 one ROW", x.count(0), 1);
                for (int i = 0; i < n; i++) {
                    item("2 LANE " + lane + " of " + n, x, 7, i, 0);
                }
                Check.due("26 PLACE of " + n, x.rolls(7, n, 1, 0), Check.PLACE);
                Check.due("3 PLACE of " + n, x.set(7, n, 1), Check.PLACE);
                Check.due("3 the last of " + n, x.set(7, n - 1, 5), n == 0 ? Check.PLACE : 5);
                if (n > 0) {
                    item("3 the last of " + n, x, 7, n - 1, 5);
                }
                Check.due("5 ITEMS", x.drop(7), n);
            }
            SaintHill x = new SaintHill();
            Check.due("2 41 ITEMS", x.row(7, lane, 41), Check.BAD);
            Check.due("2 fewer than none", x.row(7, lane, -1), Check.SIZE);
            Check.due("36 no ROW", x.count(0), 0);
        }
    }

    private static void inPlaceOfWhatIsThere() {
        SaintHill x = Check.told(READER);
        for (int size : new int[] {40, 3, 40, 0, 5}) {
            x.row(0, 0, size);
            for (int i = 0; i < size; i++) {
                item("2 anew", x, 0, i, 0);
                x.set(0, i, 4);
            }
            Check.due("2 no ITEM of the one before", x.set(0, size, 1), Check.PLACE);
            Check.due("36 one ROW", x.count(0), 1);
        }
        Check.due("2 BAD", x.row(0, 0, 41), Check.BAD);
        items("2 BAD changes nothing", x, 0, 4, 4, 4, 4, 4);
        Check.due("2 SIZE", x.row(0, 0, -1), Check.SIZE);
        items("2 SIZE changes nothing", x, 0, 4, 4, 4, 4, 4);
        Check.due("3 SIZE leaves the LANE", x.set(0, 0, 128), -128);
        Check.due("2 another LANE", x.row(0, 1, 1), 1);
        Check.due("3 another LANE", x.set(0, 0, 128), 128);
    }

    /** "its lowest bits, as many as the LANE has". */
    private static void lowestBits() {
        SaintHill x = new SaintHill();
        int[] told = {0, 1, -1, 127, 128, -128, -129, 255, 256, -256, 32767, 32768, -32768, -32769, 65535, 65536, -65536,
            Integer.MAX_VALUE, Integer.MIN_VALUE, 0x12345678};
        for (int lane = 0; lane <= 2; lane++) {
            x.row(lane, lane, 1);
            for (int v : told) {
                int bits = 8 << lane;
                long due = ((long) v % (1L << bits) + (1L << bits)) % (1L << bits);
                due = due >= 1L << bits - 1 ? due - (1L << bits) : due;
                Check.due("3 LANE " + lane + ", " + v, x.set(lane, 0, v), due);
            }
        }
        x = Check.told(READER);
        x.row(0, 0, 4);
        x.set(0, 0, 255);
        x.set(0, 1, 256);
        x.set(0, 2, 261);
        x.set(0, 3, -251);
        items("3 cut bytes are kept", x, 0, -1, 0, 5, 5);
        x.row(1, 1, 3);
        x.set(1, 0, 65535);
        x.set(1, 1, 65537);
        x.set(1, 2, -65536);
        items("3 cut shorts are kept", x, 1, -1, 1, 0);
        x.row(2, 2, 1);
        x.set(2, 0, 65536);
        Check.due("3 ints are not cut", x.rolls(2, 0, 1, 0), 0);
        x.set(2, 0, -1);
        items("3 ints are kept", x, 2, -1);
    }

    private static void copiesOfEachSize() {
        for (int n = 0; n <= 40; n++) {
            SaintHill x = Check.told(READER);
            x.row(0, 0, 40);
            x.row(1, 0, 40);
            for (int i = 0; i < 40; i++) {
                x.set(0, i, 1 + i % 5);
            }
            Check.due("4 " + n + " ITEMS to the end", x.copy(0, 0, 1, 40 - n, n), n);
            for (int i = 0; i < 40; i++) {
                item("4 " + n + " ITEMS to the end", x, 1, i, i < 40 - n ? 0 : 1 + (i - 40 + n) % 5);
            }
            Check.due("4 one more from the end", x.copy(0, 40 - n, 1, 0, n + 1), Check.PLACE);
            Check.due("4 one more to the end", x.copy(0, 0, 1, 40 - n, n + 1), Check.PLACE);
            Check.due("4 from beyond", x.copy(0, 41 - n, 1, 0, n), Check.PLACE);
            Check.due("4 to beyond", x.copy(0, 0, 1, 41 - n, n), Check.PLACE);
            Check.due("4 " + n + " ITEMS from the end", x.copy(0, 40 - n, 1, 0, n), n);
            for (int i = 0; i < n; i++) {
                item("4 " + n + " ITEMS from the end", x, 1, i, 1 + (40 - n + i) % 5);
            }
        }
    }

    /** "as they were ahead", where they lie upon one another. */
    private static void copiesWithin() {
        for (int from = 0; from <= 6; from++) {
            for (int to = 0; to <= 6; to++) {
                SaintHill x = Check.told(READER);
                int n = 6 - Math.max(from, to);
                int[] due = {0, 1, 2, 3, 4, 5};
                Check.row(x, 3, due);
                Check.due("4 within", x.copy(3, from, 3, to, n), n);
                for (int i = 0; i < n; i++) {
                    due[to + i] = from + i;
                }
                items("4 within, from " + from + " to " + to, x, 3, due);
                Check.due("4 within, one more", x.copy(3, from, 3, to, n + 1), Check.PLACE);
            }
        }
    }

    private static void copiesOfEachLane() {
        for (int a = 0; a <= 2; a++) {
            for (int b = 0; b <= 2; b++) {
                SaintHill x = Check.told(READER);
                x.row(0, a, 2);
                x.row(1, b, 2);
                x.set(0, 0, -1);
                x.set(0, 1, 5);
                Check.due("4 LANE " + a + " to " + b, x.copy(0, 0, 1, 0, 2), a == b ? 2 : Check.STORE);
                Check.due("4 none of LANE " + a + " to " + b, x.copy(0, 0, 1, 0, 0), a == b ? 0 : Check.STORE);
                items("4 LANE " + a + " to " + b, x, 1, a == b ? -1 : 0, a == b ? 5 : 0);
                items("4 what is copied stays", x, 0, -1, 5);
            }
        }
        SaintHill x = new SaintHill();
        x.row(0, 0, 0);
        x.row(1, 0, 0);
        x.row(2, 1, 0);
        Check.due("4 empty to empty", x.copy(0, 0, 1, 0, 0), 0);
        Check.due("4 empty to itself", x.copy(0, 0, 0, 0, 0), 0);
        Check.due("4 one of an empty one", x.copy(0, 0, 1, 0, 1), Check.PLACE);
        Check.due("4 empty ones of two LANES", x.copy(0, 0, 2, 0, 0), Check.STORE);
    }

    private static void copiesThatAreFound() {
        SaintHill x = Check.told(READER);
        int[][] wrong = {{-1, 0, 1}, {0, -1, 1}, {0, 0, -1}, {0, 0, 4}, {1, 0, 3}, {0, 1, 3}, {3, 0, 1}, {0, 3, 1}, {4, 0, 0},
            {0, 4, 0}, {Integer.MAX_VALUE, 0, 1}, {0, Integer.MAX_VALUE, 1}, {0, 0, Integer.MAX_VALUE},
            {Integer.MIN_VALUE, 0, 1}, {0, Integer.MIN_VALUE, 1}, {0, 0, Integer.MIN_VALUE},
            {Integer.MAX_VALUE, Integer.MAX_VALUE, Integer.MAX_VALUE}, {1, 1, Integer.MAX_VALUE},
            {Integer.MIN_VALUE, Integer.MIN_VALUE, Integer.MIN_VALUE}};
        Check.row(x, 0, 1, 2, 3);
        Check.row(x, 1, 4, 5, 0);
        for (int[] w : wrong) {
            String of = "copy(0, " + w[0] + ", 1, " + w[1] + ", " + w[2] + ")";
            Check.due("4 " + of, x.copy(0, w[0], 1, w[1], w[2]), Check.PLACE);
            Check.due("37 status of " + of, x.status(), 2);
            items("4 a as it was behind " + of, x, 0, 1, 2, 3);
            items("4 b as it was behind " + of, x, 1, 4, 5, 0);
        }
    }

    /** "A ROW is missing from now on: how many ITEMS it had." */
    private static void dropped() {
        SaintHill x = Check.told(READER);
        for (int row = 0; row <= 7; row++) {
            x.row(row, row % 3, 5 * row);
        }
        for (int row = 7; row >= 0; row--) {
            Check.due("36 ROWS", x.count(0), row + 1);
            Check.due("5 how many", x.drop(row), 5 * row);
            Check.due("5 missing", x.drop(row), Check.NULL);
            Check.due("3 missing", x.set(row, 0, 1), Check.NULL);
            Check.due("4 missing", x.copy(row, 0, row, 0, 0), Check.NULL);
            Check.due("26 missing", x.rolls(row, 0, 1, 0), Check.NULL);
        }
        Check.due("36 no ROW", x.count(0), 0);
        x.row(3, 0, 2);
        x.set(3, 0, 4);
        x.set(3, 1, 4);
        x.drop(3);
        x.row(3, 0, 2);
        items("2 behind a drop all is 0", x, 3, 0, 0);
    }

    private static void howMany() {
        SaintHill x = new SaintHill();
        for (int row = 0; row <= 7; row++) {
            x.row(row, 0, row == 0 ? 0 : 40);
            Check.due("36 ROWS, an empty one among them", x.count(0), row + 1);
            x.row(row, 1, 1);
            Check.due("36 in place of what is there", x.count(0), row + 1);
        }
        Check.due("2 no ninth", x.row(8, 0, 0), Check.BAD);
        Check.due("36 eight", x.count(0), 8);
    }

    /** Promise 37: each call with a ROW, and as(), by each of its FINDINGS, and by none. */
    private static void statusOfEachCall() {
        String[][] table = {
            {"row(0, 0, -1)", "4"}, {"row(0, 0, 0)", "0"}, {"set(7, 0, 0)", "1"}, {"set(0, 1, 0)", "2"}, {"set(1, 0, 0)", "0"},
            {"copy(7, 0, 0, 0, 0)", "1"}, {"copy(0, 0, 7, 0, 0)", "1"}, {"copy(0, 0, 1, 0, 0)", "5"},
            {"copy(1, 3, 1, 0, 1)", "2"}, {"copy(1, 0, 1, 1, 1)", "0"}, {"drop(7)", "1"}, {"drop(2)", "0"},
            {"rolls(7, 0, 1, 0)", "1"}, {"rolls(1, 2, 1, 0)", "2"}, {"rolls(1, 1, 1, 0)", "0"},
            {"sorts(0, 7, 0, 1)", "1"}, {"sorts(0, 1, 2, 1)", "2"}, {"sorts(0, 1, 1, 1)", "0"},
            {"as(0, 1)", "0"}, {"as(0, 2)", "3"}, {"as(0, 3)", "0"},
        };
        String[] ahead = {"row(3, 0, 1)", "row(3, 0, -1)", "set(6, 0, 0)", "set(1, 9, 0)", "as(0, 4)", "copy(0, 0, 1, 0, 0)"};
        String[] none = {"row(8, 0, 0)", "row(0, 0, 41)", "set(8, 0, 0)", "copy(0, 0, 8, 0, 0)", "drop(8)",
            "rolls(1, 0, 17, 0)", "sorts(6, 1, 0, 1)", "as(6, 0)", "as(0, 6)", "door(0, 1)", "build(0, 1, 0)", "rests(61)",
            "restore(0)", "undo()", "feed(256)", "rests(0)", "years(1)", "ask(0, 0)", "trace(0)", "count(0)", "status()",
            "fault()", "image(1)", "hill()"};
        for (String first : ahead) {
            for (String[] call : table) {
                SaintHill x = Calls.behind("'" + READER + "'", "hill(); row(0, 0, 0); row(1, 1, 2); row(2, 2, 1)", first);
                Calls.answer(x, call[0]);
                Check.due("37 behind " + first + ", " + call[0], x.status(), Integer.parseInt(call[1]));
                int was = x.status();
                for (String other : none) {
                    Calls.answer(x, other);
                    Check.due("37 " + other + " does not count", x.status(), was);
                }
            }
        }
        Check.due("37 there was none", new SaintHill().status(), 0);
        Check.due("37 STATE does not count", Calls.behind("drop(0); rolls(0, 0, 1, 0)").status(), 1);
    }
}
