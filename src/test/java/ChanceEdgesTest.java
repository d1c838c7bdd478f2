/** Section 3 of the document, promises 28 to 31: fractions, draws, images, each from the least to the most. */
public final class ChanceEdgesTest {
    private static final String SIX_DOORS = "d1,0,0;d1,1,0;d1,2,0;d1,3,0;d1,4,0;d1,5,0;";
    private static final String SIX_MISERS = "m1,0,0;m1,1,0;m1,2,0;m1,3,0;m1,4,0;m1,5,0;";

    public static void main(String[] args) {
        playOfOneDoor();
        playOfSix();
        playThatIsSure();
        playOfTheYear();
        draws();
        drawsOfOneHouse();
        drawsChangeNothing();
        drawsWithoutHouses();
        imagesOfEachNumber();
        imagesOfAllThatIsAHill();
        imagesKeepNothingElse();
        imagesOfTheLastYear();
        Check.end();
    }

    private static void fraction(String of, SaintHill x, int house, int c, int above, int below) {
        Check.due("28 " + of + ", c " + c + ": above", x.play(house, c, 0), above);
        Check.due("28 " + of + ", c " + c + ": below", x.play(house, c, 1), below);
    }

    /** "fractions, told as two numbers in lowest terms (0 is 0 by 1)". */
    private static void playOfOneDoor() {
        int[][] lowest = {{0, 1}, {1, 10}, {1, 5}, {3, 10}, {2, 5}, {1, 2}, {3, 5}, {7, 10}, {4, 5}, {9, 10}, {1, 1}};
        SaintHill x = Check.told("c2,3,0,9,1,1;d1,3,0;");
        for (int c = 0; c <= 10; c++) {
            fraction("OPEN", x, 0, c, lowest[10 - c][0], lowest[10 - c][1]);
        }
        x.door(0, 0);
        for (int c = 0; c <= 10; c++) {
            fraction("shut", x, 0, c, lowest[c][0], lowest[c][1]);
        }
        Check.due("28 BAD -1", x.play(0, -1, 0), Check.BAD);
        Check.due("28 BAD 11", x.play(0, 11, 0), Check.BAD);
    }

    /** Five post offices and a door, all shut: all six must be made otherwise. */
    private static void playOfSix() {
        SaintHill x = Check.told("c6,3,0,9,1,1;p1,3,0;p2,3,0;p3,3,0;p4,3,0;p5,3,0;d6,3,0;");
        for (int house = 0; house < 6; house++) {
            x.door(house, 0);
        }
        fraction("six", x, 5, 0, 0, 1);
        fraction("six", x, 5, 1, 1, 1000000);
        fraction("six", x, 5, 2, 1, 15625);
        fraction("six", x, 5, 3, 729, 1000000);
        fraction("six", x, 5, 5, 1, 64);
        fraction("six", x, 5, 7, 117649, 1000000);
        fraction("six", x, 5, 9, 531441, 1000000);
        fraction("six", x, 5, 10, 1, 1);
        for (int c = 0; c <= 10; c++) {
            fraction("none of six but the last", x, 0, c, 0, 1);
        }
    }

    private static void playThatIsSure() {
        SaintHill x = Check.told("c2,3,0,9,1,1;d1,0,0;d1,1,0;d1,2,0;m1,3,0;d1,4,0;m2,3,0;");
        for (int c = 0; c <= 10; c++) {
            fraction("a miser", x, 3, c, 1, 1);
            fraction("a miser behind a miser", x, 5, c, 0, 1);
            fraction("a door beside the way", x, 2, c, 0, 1);
        }
    }

    private static void playOfTheYear() {
        SaintHill x = Check.told("c2,3,1,9,1,1;d1,3,0;d1,4,0;");
        fraction("this YEAR", x, 0, 4, 3, 5);
        fraction("not this YEAR", x, 1, 4, 0, 1);
        x.years(1);
        fraction("the YEAR is gone", x, 0, 4, 0, 1);
        fraction("this YEAR", x, 1, 4, 3, 5);
        Check.due("28 nothing changes", x.count(4), 3);
        Check.due("28 nothing is an ACT", x.count(6), 1);
    }

    private static void drawn(String of, SaintHill x, int n, int seed, int times, int which) {
        Check.due("29 " + of + ", " + n + " YEARS by " + seed + ": how often", x.drawn(n, seed, 0), times);
        Check.due("29 " + of + ", " + n + " YEARS by " + seed + ": at which", x.drawn(n, seed, 1), which);
    }

    /** The rows were found by another program: the SEED, n, how often and at which of six doors, of six misers. */
    private static void draws() {
        int[][] due = {{1, 0, 0, Check.NONE, 0, Check.NONE}, {1, 1, 1, 0, 1, 0}, {1, 2, 2, 0, 2, 0}, {1, 59, 42, 0, 49, 0},
            {1, 60, 43, 0, 50, 0}, {2, 1, 1, 0, 1, 0}, {2, 59, 41, 1, 49, 1}, {2, 60, 41, 1, 50, 0},
            {500000, 1, 1, 4, 1, 4}, {500000, 2, 2, 4, 2, 4}, {500000, 59, 43, 4, 53, 3}, {500000, 60, 44, 4, 54, 0},
            {999998, 59, 40, 5, 52, 0}, {999998, 60, 41, 5, 53, 0}, {999999, 0, 0, Check.NONE, 0, Check.NONE},
            {999999, 1, 1, 0, 1, 0}, {999999, 2, 2, 0, 2, 0}, {999999, 59, 47, 5, 50, 5}, {999999, 60, 47, 5, 51, 5}};
        SaintHill doors = Check.told("c2,3,2,9,1,1;" + SIX_DOORS);
        SaintHill misers = Check.told("c2,3,2,9,1,1;" + SIX_MISERS);
        for (int[] d : due) {
            drawn("six doors", doors, d[1], d[0], d[2], d[3]);
            drawn("six misers", misers, d[1], d[0], d[4], d[5]);
        }
        for (int seed : new int[] {0, -1, 1000000, Integer.MIN_VALUE, Integer.MAX_VALUE}) {
            Check.due("29 BAD SEED " + seed, doors.drawn(1, seed, 0), Check.BAD);
        }
        Check.due("29 BAD -1", doors.drawn(-1, 1, 0), Check.BAD);
        Check.due("29 BAD 61", doors.drawn(61, 1, 0), Check.BAD);
    }

    private static void drawsOfOneHouse() {
        SaintHill x = Check.told("c2,3,2,9,1,1;d1,0,0;");
        int[][] due = {{1, 60, 10, 0}, {2, 60, 8, 0}, {999998, 2, 1, 0}, {999999, 60, 4, 0}, {500000, 2, 0, Check.NONE},
            {500000, 60, 5, 0}};
        for (int[] d : due) {
            drawn("one door", x, d[1], d[0], d[2], d[3]);
        }
    }

    private static void drawsChangeNothing() {
        SaintHill x = Check.told("c2,3,2,9,1,1;" + SIX_DOORS);
        x.years(3);
        x.door(2, 0);
        for (int k = 0; k < 3; k++) {
            Check.due("29 the same draws again", x.drawn(60, 1, 0), x.drawn(60, 1, 0));
        }
        int[] due = {0, 2, 6, 3, 59, 2, 4, 0, 9, 3};
        for (int what = 0; what <= 9; what++) {
            Check.due("29 nothing changes: count(" + what + ")", x.count(what), due[what]);
        }
        SaintHill y = Check.told("c2,0,0,9,1,1;" + SIX_DOORS);
        y.door(2, 0);
        Check.due("29 START, DRIFT and the YEAR matter not", x.drawn(60, 7, 0), y.drawn(60, 7, 0));
    }

    /** "(no HOUSES: none)". */
    private static void drawsWithoutHouses() {
        SaintHill x = Check.told("c2,3,2,9,1,1;");
        for (int n : new int[] {0, 1, 60}) {
            for (int seed : new int[] {1, 3, 999999}) {
                drawn("no HOUSES", x, n, seed, 0, Check.NONE);
            }
        }
    }

    private static void imagesOfEachNumber() {
        SaintHill x = new SaintHill();
        for (int k = 0; k <= 1; k++) {
            Check.due("30 no HILL", x.image(k), Check.STATE);
            Check.due("31 none was kept", x.restore(k), Check.STATE);
        }
        Check.feed(x, "c2,0,0,1,1,1;");
        x.hill();
        Check.due("31 a HILL is no image", x.restore(0), Check.STATE);
        Check.due("30 kept", x.image(0), 1);
        Check.due("31 the other one was not", x.restore(1), Check.STATE);
        x.speed(2);
        Check.due("30 kept", x.image(1), 1);
        x.speed(3);
        Check.due("31 the first", x.restore(0), 1);
        Check.due("36 the first", x.count(8), 1);
        Check.due("31 the second", x.restore(1), 1);
        Check.due("36 the second", x.count(8), 2);
        x.speed(4);
        Check.due("30 kept anew", x.image(0), 1);
        x.speed(5);
        Check.due("30 BAD", x.image(2), Check.BAD);
        Check.due("30 BAD", x.image(-1), Check.BAD);
        Check.due("31 BAD", x.restore(2), Check.BAD);
        Check.due("31 BAD", x.restore(-1), Check.BAD);
        Check.due("36 BAD changes nothing", x.count(8), 5);
        x.restore(0);
        Check.due("31 the latest kept", x.count(8), 4);
        x.restore(1);
        Check.due("31 the other one stays", x.count(8), 2);
        x.speed(9);
        x.restore(1);
        Check.due("31 as often as one likes", x.count(8), 2);
    }

    private static void imagesOfAllThatIsAHill() {
        SaintHill x = Check.told("c5,2,3,4,2,2;d1,2,1;p2,2,0;m5,5,1;w4,3,0;u2,4,1;");
        x.years(7);
        x.door(1, 0);
        x.door(3, 0);
        x.build(2, 3, 0);
        x.speed(6);
        x.image(1);
        int[] counts = counts(x);
        String houses = houses(x);
        Check.feed(x, "c9,6,6,9,0,1;u1,1,1;m9,6,0;m9,5,0;m9,4,0;m9,3,0;m9,2,0;");
        Check.due("7 another HILL", x.hill(), 6);
        x.years(2);
        Check.due("31 restored", x.restore(1), 1);
        for (int what = 1; what <= 9; what++) {
            Check.due("31 count(" + what + ")", x.count(what), what == 6 ? 0 : counts[what]);
        }
        Check.holds("31 the HOUSES", houses.equals(houses(x)));
        Check.due("31 no sixth HOUSE", x.kind(5), Check.BAD);
        Check.due("31 no TIER 6", x.at(6, 0), Check.BAD);
        Check.due("31 it drifts as it did: 2 and 3 times 8 by 7", x.line(1, 1), 5);
        Check.due("31 it tends as it did: up on TIER 2", x.line(2, 1), 6);
    }

    private static int[] counts(SaintHill x) {
        int[] all = new int[10];
        for (int what = 0; what <= 9; what++) {
            all[what] = x.count(what);
        }
        return all;
    }

    private static String houses(SaintHill x) {
        StringBuilder text = new StringBuilder();
        for (int house = 0; house < 5; house++) {
            for (int what = 0; what <= 4; what++) {
                text.append(x.house(house, what)).append(' ');
            }
            text.append(x.kind(house)).append(';');
        }
        return text.toString();
    }

    /** An image is "of the HILL": ROWS, the tape, FAULTS, THE TRACE, status() are none of it. */
    private static void imagesKeepNothingElse() {
        SaintHill x = Check.told("c2,0,0,1,1,1;d1,0,0;");
        x.image(0);
        x.row(0, 0, 3);
        x.feed('x');
        x.hill();
        x.feed('c');
        x.ask(0, 1);
        x.as(0, 5);
        x.restore(0);
        Check.due("36 the ROW is there yet", x.count(0), 1);
        Check.due("36 the tape as it was", x.count(7), 1);
        Check.due("8 the FAULT as it was", x.fault(), 1);
        Check.due("35 THE TRACE as it was", x.trace(0), 21);
        Check.due("37 the status as it was", x.status(), 3);
    }

    private static void imagesOfTheLastYear() {
        SaintHill x = Check.told("c2,0,0,9,1,1;m1,0,0;");
        for (int k = 0; k < 41; k++) {
            x.years(24);
        }
        x.years(15);
        x.image(0);
        Check.feed(x, "c2,0,0,9,1,1;m1,0,0;");
        x.hill();
        x.image(1);
        x.restore(0);
        Check.due("31 YEAR 999", x.count(3), 999);
        Check.due("31 all GOT it", x.count(9), 999);
        Check.due("9 FULL", x.years(1), Check.FULL);
        x.restore(1);
        Check.due("31 YEAR 0", x.count(3), 0);
        Check.due("9 not FULL", x.years(24), 0);
        Check.due("14 24 times", x.house(0, 4), 24);
    }
}
