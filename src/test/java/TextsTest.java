/** Promises 6 to 8: the tape and the hills that it tells. */
public final class TextsTest {
    private static final String LAW = "c5,2,1,4,0,2;";

    public static void main(String[] args) {
        feeds();
        hills();
        faultsOfTheLaw();
        faultsOfHouses();
        faultsOfTokens();
        whatStays();
        Check.end();
    }

    private static void feeds() {
        SaintHill x = new SaintHill();
        Check.due("6 least byte", x.feed(0), 1);
        Check.due("6 greatest byte", x.feed(255), 2);
        Check.due("6 BAD 256", x.feed(256), Check.BAD);
        Check.due("6 BAD -1", x.feed(-1), Check.BAD);
        Check.due("6 count", x.count(7), 2);
        for (int i = 3; i <= 100; i++) {
            Check.due("6 feed " + i, x.feed('c'), i);
        }
        Check.due("6 FULL", x.feed('c'), Check.FULL);
        Check.due("6 BAD ahead of FULL", x.feed(256), Check.BAD);
        Check.due("6 still 100", x.count(7), 100);
        Check.due("7 byte 0 is no token", x.hill(), Check.FAULTY);
        Check.due("6 room again", x.feed('c'), 1);
    }

    private static void hills() {
        SaintHill x = Check.told("c9,6,5,3,2,7;");
        Check.due("7 tiers", x.count(1), 9);
        Check.due("7 no houses", x.count(2), 0);
        Check.due("7 the year", x.count(3), 0);
        Check.due("7 nobody open", x.count(4), 0);
        Check.due("7 start", x.count(5), 6);
        Check.due("7 tape", x.count(7), 0);
        Check.due("7 speed", x.count(8), 3);
        x.years(1);
        Check.due("7 drift: 6 and 5 by 7", x.count(5), 4);
        Check.due("7 tend and every: up at tier 7", x.line(7, 0), 5);
        Check.due("7 tend and every: not at tier 6", x.line(6, 0), 4);
        Check.feed(x, "c02,00,00,01,00,01;u02,06,01;d1,0,0;");
        Check.due("7 numbers of two figures", x.hill(), 2);
        Check.due("7 year 0 again", x.count(3), 0);
        Check.due("7 no act can be undone", x.count(6), 0);
        Check.due("7 undo", x.undo(), Check.STATE);
        Check.due("7 all open", x.count(4), 3);
        Check.due("7 tier", x.house(0, 0), 2);
        Check.due("7 line", x.house(0, 1), 6);
        Check.due("7 wants", x.house(0, 2), 1);
        Check.due("7 wants not", x.house(1, 2), 0);
        Check.due("7 a pump", x.kind(0), 5);
        Check.due("7 a door", x.kind(1), 1);
        x.years(3);
        x.door(1, 0);
        Check.due("7 the door got it ahead", x.house(1, 4), 3);
        Check.feed(x, "c3,1,1,1,1,1;m1,6,0;w1,5,0;p1,4,1;");
        Check.due("7 another hill", x.hill(), 3);
        Check.due("7 open anew", x.count(4), 7);
        Check.due("7 nobody got it", x.count(9), 0);
        Check.due("7 a miser", x.kind(0), 3);
        Check.due("7 a wall", x.kind(1), 4);
        Check.due("7 a post office", x.kind(2), 2);
        Check.feed(x, LAW + "d1,0,0;d1,1,0;d1,2,0;d1,3,0;d1,4,0;d5,0,0;");
        Check.due("7 six houses", x.hill(), 6);
        Check.feed(x, LAW + "d1,0,0;");
        Check.due("7 one house in place of six", x.hill(), 1);
        Check.due("7 nobody else is open", x.count(4), 1);
        Check.due("7 nobody else stands there", x.at(1, 1), Check.NONE);
        Check.due("8 no fault yet", x.fault(), 0);
    }

    private static void faulty(String text, int place, int number) {
        SaintHill x = new SaintHill();
        Check.feed(x, text);
        Check.due("7 hill of " + text, x.hill(), Check.FAULTY - place);
        Check.due("8 fault of " + text, x.fault(), number);
        Check.due("7 the tape is empty behind " + text, x.count(7), 0);
        Check.due("7 no hill by " + text, x.count(1), 0);
    }

    private static void faultsOfTheLaw() {
        faulty("", 0, 1);
        faulty("c", 1, 1);
        faulty("d3,1,0;", 0, 1);
        faulty("5,", 0, 1);
        faulty("cc", 1, 1);
        faulty("c,", 1, 1);
        faulty("c2", 2, 1);
        faulty("c2;", 2, 1);
        faulty("c2,", 3, 1);
        faulty("c1,2,1,4,0,2;", 1, 2);
        faulty("c0", 1, 2);
        faulty("c10,2,1,4,0,2;", 1, 2);
        faulty("c2,7,1,4,0,2;", 3, 2);
        faulty("c2,6,7,4,0,2;", 5, 2);
        faulty("c2,6,6,0,0,2;", 7, 2);
        faulty("c2,6,6,10,0,2;", 7, 2);
        faulty("c2,6,6,9,3,2;", 9, 2);
        faulty("c2,6,6,9,2,0;", 11, 2);
        faulty("c2,6,6,9,2,10;", 11, 2);
        faulty("c2,6,6,9,2,9,", 12, 1);
        faulty("c2,6,6,9,2;", 10, 1);
        faulty("c2,6,6,9,2,9", 12, 1);
        faulty("c02,06,06,09,02,10;", 16, 2);
    }

    private static void faultsOfHouses() {
        faulty(LAW + "c3,1,0;", 13, 1);
        faulty(LAW + "x3,1,0;", 13, 1);
        faulty(LAW + ";", 13, 1);
        faulty(LAW + "3", 13, 1);
        faulty(LAW + "d", 14, 1);
        faulty(LAW + "d0,1,0;", 14, 2);
        faulty(LAW + "d6,1,0;", 14, 2);
        faulty(LAW + "d5,7,0;", 16, 2);
        faulty(LAW + "d5,6,2;", 18, 2);
        faulty(LAW + "d5;", 15, 1);
        faulty(LAW + "d5,6;", 17, 1);
        faulty(LAW + "d5,6d1,1,0;", 17, 1);
        faulty(LAW + "d5d1,1,0;", 15, 1);
        faulty(LAW + "d5,6,1d1,1,0;", 19, 1);
        faulty(LAW + "d5,6,1,", 19, 1);
        faulty(LAW + "d5,6,1", 19, 1);
        faulty(LAW + "dd", 14, 1);
        faulty(LAW + "d3,1,0;p3,1,1;", 23, 2);
        faulty(LAW + "d3,1,0;p3,2,0;m3,01,1;", 30, 2);
        faulty(LAW + "d1,0,0;d1,1,0;d1,2,0;d1,3,0;d1,4,0;d5,0,0;u5,1,0;", 55, 3);
        faulty(LAW + "d1,0,0;d1,1,0;d1,2,0;d1,3,0;d1,4,0;d5,0,0;u", 55, 3);
        faulty(LAW + "d1,0,0;d1,1,0;d1,2,0;d1,3,0;d1,4,0;d5,0,0;x", 55, 1);
        faulty(LAW + "d1,0,0;d1,1,0;d1,2,0;d1,3,0;d1,4,0;d1,0,0;u5,1,0;", 51, 2);
    }

    private static void faultsOfTokens() {
        faulty("c005,2,1,4,0,2;", 1, 1);
        faulty("c5,2,1,4,0,123", 11, 1);
        faulty("c5,1234,1,4,0,2;", 3, 1);
        faulty(" c5,2,1,4,0,2;", 0, 1);
        faulty("c 5,2,1,4,0,2;", 1, 1);
        faulty("c5 ,2,1,4,0,2;", 2, 1);
        faulty("C5,2,1,4,0,2;", 0, 1);
        faulty("c-5,2,1,4,0,2;", 1, 1);
        faulty("c5.2,1,4,0,2;", 2, 1);
        faulty("c5:2,1,4,0,2;", 2, 1);
        faulty("c5/2,1,4,0,2;", 2, 1);
        faulty(LAW + "\n", 13, 1);
        faulty(LAW + "d3,1,0;\u00ff", 20, 1);
        faulty(LAW + "d3,001,0;", 16, 1);
        faulty("c7,2,1,4,0,2;d3,9,0", 16, 2);
    }

    private static void whatStays() {
        SaintHill x = Check.told(LAW + "d3,1,0;p2,2,1;");
        x.years(2);
        x.door(1, 0);
        Check.feed(x, "c3,1,1,1,1,1;m1,6,0;w9,5,0;p1,4,1;");
        Check.due("7 a fault", x.hill(), Check.FAULTY - 21);
        Check.due("8 fault", x.fault(), 2);
        Check.due("7 tiers stay", x.count(1), 5);
        Check.due("7 houses stay", x.count(2), 2);
        Check.due("7 the year stays", x.count(3), 2);
        Check.due("7 doors stay", x.count(4), 1);
        Check.due("7 acts stay", x.count(6), 3);
        Check.due("7 kinds stay", x.kind(0), 1);
        Check.feed(x, LAW);
        Check.due("7 a hill again", x.hill(), 0);
        Check.due("8 the latest fault stays told", x.fault(), 2);
        Check.feed(x, "c");
        x.hill();
        Check.due("8 the latest fault", x.fault(), 1);
    }
}
