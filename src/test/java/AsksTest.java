/** Promises 32 to 36: kinds of houses, what they answer, and what is counted. */
public final class AsksTest {
    private static final String ALL = "c5,2,1,4,0,2;d3,1,0;p2,2,1;m5,5,1;w4,3,0;u2,4,1;";

    public static void main(String[] args) {
        kinds();
        takenAs();
        doors();
        posts();
        misers();
        wallsAndPumps();
        traces();
        counts();
        Check.end();
    }

    private static void kinds() {
        SaintHill x = new SaintHill();
        Check.due("32 no hill", x.kind(0), Check.BAD);
        x = Check.told(ALL);
        for (int house = 0; house < 5; house++) {
            Check.due("32 kind(" + house + ")", x.kind(house), house + 1);
        }
        Check.due("32 BAD 5", x.kind(5), Check.BAD);
        Check.due("32 BAD -1", x.kind(-1), Check.BAD);
    }

    private static void takenAs() {
        SaintHill x = new SaintHill();
        Check.due("33 no hill", x.as(0, 0), Check.BAD);
        x = Check.told(ALL);
        String[] is = {"110000", "111000", "110100", "100010", "100011"};
        for (int house = 0; house < 5; house++) {
            for (int kind = 0; kind <= 5; kind++) {
                boolean so = is[house].charAt(kind) == '1';
                Check.due("33 as(" + house + ", " + kind + ")", x.as(house, kind), so ? house : Check.KIND);
                Check.due("37 status of it", x.status(), so ? 0 : 3);
            }
        }
        Check.due("33 BAD kind 6", x.as(0, 6), Check.BAD);
        Check.due("33 BAD kind -1", x.as(0, -1), Check.BAD);
        Check.due("33 BAD house 5", x.as(5, 0), Check.BAD);
        Check.due("33 BAD house -1", x.as(-1, 0), Check.BAD);
    }

    private static void doors() {
        SaintHill x = Check.told("c2,3,0,9,1,1;d2,0,0;d2,1,0;d2,3,0;");
        x.years(1);
        Check.due("34 size of a door: 2, and 2 and 1", x.ask(2, 0), 5);
        Check.trace("34 size of a door", x, 11, 10, 21, 20);
        Check.due("34 mark of a door", x.ask(2, 1), 3);
        Check.trace("34 mark of a door", x, 21, 20);
        x.build(2, 1, 0);
        Check.due("34 built elsewhere", x.ask(2, 0), 4);
    }

    private static void posts() {
        SaintHill x = Check.told("c2,3,0,1,1,1;d2,0,0;p1,3,0;");
        x.years(2);
        Check.due("34 mark of a post office: twice 1 and 2", x.ask(1, 1), 6);
        Check.trace("34 mark of a post office", x, 24, 21, 20);
        Check.due("34 size of a post office: 0 less 1 and 6", x.ask(1, 0), -7);
        Check.trace("34 size of a post office", x, 12, 11, 10, 24, 21, 20);
    }

    private static void misers() {
        SaintHill x = Check.told("c2,3,0,1,1,1;d2,0,0;d2,1,0;m1,3,0;");
        x.years(3);
        Check.due("34 mark of a miser: 2 and 3 less 1000", x.ask(2, 1), -995);
        Check.trace("34 mark of a miser", x, 22, 21, 20);
        Check.due("34 size of a miser: 1 and -995", x.ask(2, 0), -994);
        Check.trace("34 size of a miser", x, 11, 10, 22, 21, 20);
    }

    private static void wallsAndPumps() {
        SaintHill x = Check.told("c2,3,0,9,1,1;d2,0,0;w2,1,0;u2,3,0;");
        Check.due("34 size of a wall", x.ask(1, 0), -98);
        Check.trace("34 size of a wall", x, 13, 10);
        Check.due("34 mark of a wall: 1 less -98", x.ask(1, 1), 99);
        Check.trace("34 mark of a wall", x, 23, 20, 13, 10);
        Check.due("34 size of a pump", x.ask(2, 0), -196);
        Check.trace("34 size of a pump", x, 14, 13, 10);
        Check.due("34 mark of a pump: 2 less -196", x.ask(2, 1), 198);
        Check.trace("34 mark of a pump", x, 23, 20, 14, 13, 10);
    }

    private static void traces() {
        SaintHill x = new SaintHill();
        Check.due("34 no hill", x.ask(0, 0), Check.BAD);
        Check.due("35 empty", x.trace(0), Check.NONE);
        x = Check.told("c2,3,0,9,1,1;w2,0,0;");
        x.ask(0, 1);
        Check.due("34 BAD what 2", x.ask(0, 2), Check.BAD);
        Check.due("34 BAD what -1", x.ask(0, -1), Check.BAD);
        Check.due("34 BAD house 1", x.ask(1, 0), Check.BAD);
        Check.due("34 BAD house -1", x.ask(-1, 0), Check.BAD);
        Check.trace("34 what is refused changes nothing", x, 23, 20, 13, 10);
        Check.due("35 below", x.trace(-1), Check.NONE);
        Check.due("35 least", x.trace(Integer.MIN_VALUE), Check.NONE);
        Check.due("35 16", x.trace(16), Check.NONE);
        Check.due("35 most", x.trace(Integer.MAX_VALUE), Check.NONE);
        Check.feed(x, "c2,3,0,9,1,1;");
        x.hill();
        Check.trace("35 it stays on another hill", x, 23, 20, 13, 10);
    }

    private static void counts() {
        SaintHill x = Check.told("c5,2,1,4,0,2;d1,2,0;p2,2,1;m1,3,1;");
        x.row(0, 0, 3);
        x.row(3, 1, 0);
        x.years(2);
        x.door(1, 0);
        x.feed('c');
        x.feed('2');
        x.feed(',');
        x.speed(7);
        int[] due = {2, 5, 3, 2, 5, 4, 4, 3, 7, 2};
        for (int what = 0; what < due.length; what++) {
            Check.due("36 count(" + what + ")", x.count(what), due[what]);
        }
        Check.due("36 BAD 10", x.count(10), Check.BAD);
        Check.due("36 BAD -1", x.count(-1), Check.BAD);
    }
}
