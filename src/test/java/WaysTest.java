/** Promises 16 to 20: where it rests when, and by which cells it comes there. */
public final class WaysTest {
    public static void main(String[] args) {
        refusals();
        doors();
        posts();
        misers();
        wallsAndPumps();
        edges();
        turnedTo();
        slowest();
        tendings();
        drifts();
        nextAndOften();
        Check.end();
    }

    private static void refusals() {
        SaintHill x = new SaintHill();
        Check.due("16 STATE ahead of BAD", x.rests(-1), Check.STATE);
        Check.due("17 STATE ahead of BAD", x.line(-1, 99), Check.STATE);
        Check.due("18 STATE ahead of BAD", x.left(61), Check.STATE);
        Check.due("19 no hill", x.next(0), Check.BAD);
        Check.due("20 no hill", x.often(0, 1), Check.BAD);
        x = Check.told("c2,3,0,5,1,1;d1,3,0;");
        Check.due("16 BAD -1", x.rests(-1), Check.BAD);
        Check.due("16 BAD 61", x.rests(61), Check.BAD);
        Check.due("16 60", x.rests(60), 0);
        Check.due("17 BAD tier -1", x.line(-1, 0), Check.BAD);
        Check.due("17 BAD tier 3", x.line(3, 0), Check.BAD);
        Check.due("17 BAD d -1", x.line(0, -1), Check.BAD);
        Check.due("17 BAD d 61", x.line(0, 61), Check.BAD);
        Check.due("17 60", x.line(1, 60), 3);
        Check.due("18 BAD -1", x.left(-1), Check.BAD);
        Check.due("18 BAD 61", x.left(61), Check.BAD);
        Check.due("18 60", x.left(60), 5);
        Check.due("19 BAD 1", x.next(1), Check.BAD);
        Check.due("19 BAD -1", x.next(-1), Check.BAD);
        Check.due("20 BAD house 1", x.often(1, 1), Check.BAD);
        Check.due("20 BAD house -1", x.often(-1, 1), Check.BAD);
        Check.due("20 BAD n 0", x.often(0, 0), Check.BAD);
        Check.due("20 BAD n 61", x.often(0, 61), Check.BAD);
        Check.due("20 60", x.often(0, 60), 60);
    }

    /** What it does this year: the house, the speed, and the lines from the top on. */
    private static void way(String of, SaintHill x, int house, int speed, int... lines) {
        Check.due(of + " rests(0)", x.rests(0), house);
        Check.due(of + " left(0)", x.left(0), speed);
        for (int tier = 0; tier <= x.count(1); tier++) {
            Check.due(of + " line(" + tier + ", 0)", x.line(tier, 0), tier < lines.length ? lines[tier] : Check.NONE);
        }
    }

    private static void doors() {
        SaintHill x = Check.told("c3,3,0,5,1,1;d1,3,0;");
        way("a door that is open", x, 0, 5, 3, 3);
        x.door(0, 0);
        way("a door that is shut, tier 1", x, Check.NONE, 3, 3, 2, 2, 2);
        x.build(0, 2, 3);
        way("a door that is shut, tier 2", x, Check.NONE, 3, 3, 3, 4, 4);
        x.build(0, 3, 3);
        way("a door that is shut, tier 3", x, Check.NONE, 3, 3, 3, 3, 2);
        x.build(0, 3, 4);
        way("a door beside the way", x, Check.NONE, 5, 3, 3, 3, 3);
    }

    private static void posts() {
        SaintHill x = Check.told("c3,3,0,5,1,1;p1,3,0;");
        way("a post office that is open", x, Check.NONE, 4, 3, 3, 3, 3);
        x.door(0, 0);
        way("a post office that is shut, tier 1", x, Check.NONE, 3, 3, 2, 2, 2);
        x.build(0, 2, 3);
        way("a post office that is shut, tier 2", x, Check.NONE, 3, 3, 3, 4, 4);
    }

    private static void misers() {
        SaintHill x = Check.told("c3,3,0,5,1,1;m2,3,0;");
        way("a miser", x, 0, 5, 3, 3, 3);
        x.door(0, 0);
        way("a miser that is shut", x, 0, 5, 3, 3, 3);
    }

    private static void wallsAndPumps() {
        SaintHill x = Check.told("c3,3,0,5,1,1;w2,3,0;");
        way("a wall", x, Check.NONE, 4, 3, 3, 2, 2);
        x.door(0, 0);
        way("a wall that is shut", x, Check.NONE, 4, 3, 3, 2, 2);
        x = Check.told("c3,3,0,5,1,1;u1,3,0;");
        way("a pump", x, Check.NONE, 4, 3, 4, 4, 4);
        x.door(0, 0);
        way("a pump that is shut", x, Check.NONE, 4, 3, 4, 4, 4);
        x = Check.told("c3,3,0,9,1,1;u1,3,0;u2,4,0;u3,5,0;");
        way("three pumps", x, Check.NONE, 6, 3, 4, 5, 6);
    }

    private static void edges() {
        SaintHill x = Check.told("c2,0,0,5,1,1;w1,0,0;");
        way("a wall at line 0", x, Check.NONE, 4, 0, 0, 0);
        x = Check.told("c2,6,0,5,1,1;u2,6,0;");
        way("a pump at line 6", x, Check.NONE, 4, 6, 6, 6);
        x = Check.told("c2,0,0,5,1,1;d1,0,0;");
        x.door(0, 0);
        way("a door at line 0", x, Check.NONE, 3, 0, 0, 0);
        x = Check.told("c2,6,0,5,1,1;d2,6,0;");
        x.door(0, 0);
        way("a door at line 6", x, Check.NONE, 3, 6, 6, 6);
        way("tending at line 0", Check.told("c3,1,0,5,0,1;"), Check.NONE, 5, 1, 0, 0, 0);
        way("tending at line 6", Check.told("c3,5,0,5,2,1;"), Check.NONE, 5, 5, 6, 6, 6);
    }

    private static void turnedTo() {
        SaintHill x = Check.told("c2,3,0,5,1,1;w1,3,0;d1,2,0;");
        way("a door where it is turned to", x, Check.NONE, 4, 3, 2, 2);
        x = Check.told("c2,3,0,5,1,1;w1,3,0;d2,2,0;");
        way("a door on the next tier", x, 1, 4, 3, 2, 2);
        x = Check.told("c2,3,0,5,2,1;m1,3,0;d1,4,0;");
        way("it tends ahead of the house", x, 1, 5, 3, 4);
    }

    private static void slowest() {
        SaintHill x = Check.told("c2,3,0,1,1,1;p1,3,0;");
        way("a post office at speed 1", x, 0, 0, 3, 3);
        x.door(0, 0);
        way("a post office that is shut at speed 1: turned, then at rest", x, 0, 0, 3, 2);
        x.speed(2);
        way("a post office that is shut at speed 2", x, 0, 0, 3, 2);
        x.speed(3);
        way("a post office that is shut at speed 3", x, Check.NONE, 1, 3, 2, 2);
        x = Check.told("c2,3,0,1,1,1;w1,3,0;");
        way("a wall at speed 1", x, 0, 0, 3, 2);
        x.speed(2);
        way("a wall at speed 2", x, Check.NONE, 1, 3, 2, 2);
        x = Check.told("c2,3,0,1,1,1;u2,3,0;");
        way("a pump at speed 1", x, 0, 0, 3, 3, 4);
        x = Check.told("c2,3,0,2,1,1;w1,3,0;u2,2,0;");
        way("the second is the last", x, 1, 0, 3, 2, 3);
        x = Check.told("c2,3,0,1,1,1;d1,3,0;");
        way("a door that is open at speed 1", x, 0, 1, 3, 3);
    }

    private static void tendings() {
        way("tend 0, every 1", Check.told("c4,5,0,5,0,1;"), Check.NONE, 5, 5, 4, 3, 2, 1);
        way("tend 0, every 2", Check.told("c4,5,0,5,0,2;"), Check.NONE, 5, 5, 5, 4, 4, 3);
        way("tend 2, every 3", Check.told("c7,0,0,5,2,3;"), Check.NONE, 5, 0, 0, 0, 1, 1, 1, 2, 2);
        way("tend 1, every 1", Check.told("c2,5,0,5,1,1;"), Check.NONE, 5, 5, 5, 5);
        way("tend 2, every 9", Check.told("c9,0,0,9,2,9;"), Check.NONE, 9, 0, 0, 0, 0, 0, 0, 0, 0, 0, 1);
        way("tend 2, every 9, too few tiers", Check.told("c2,0,0,9,2,9;"), Check.NONE, 9, 0, 0, 0);
    }

    private static void drifts() {
        SaintHill x = Check.told("c2,6,6,5,1,1;");
        int[] lines = {6, 5, 4, 3, 2, 1, 0, 6};
        for (int d = 0; d < lines.length; d++) {
            Check.due("17 drift 6, d " + d, x.line(0, d), lines[d]);
        }
        x = Check.told("c2,0,1,9,1,1;p2,3,0;p1,4,0;p2,4,0;");
        Check.due("18 beside the post offices", x.left(2), 9);
        Check.due("18 through one", x.left(3), 8);
        Check.due("18 through two", x.left(4), 7);
        Check.due("18 through none again", x.left(5), 9);
        x = Check.told("c2,6,6,5,1,1;");
        x.years(3);
        Check.due("17 d from now on", x.line(0, 2), 1);
        Check.due("36 the line this year", x.count(5), 3);
        Check.due("17 in 60 years: 6 and 6 times 63", x.line(0, 60), 6);
        Check.due("16 foretold: nothing changes", x.count(3), 3);
    }

    private static void nextAndOften() {
        SaintHill x = Check.told("c2,2,1,4,1,1;d1,2,1;m2,1,0;w1,6,1;");
        Check.due("19 now", x.next(0), 0);
        Check.due("19 in 6 years", x.next(1), 6);
        Check.due("19 never", x.next(2), Check.NONE);
        Check.due("20 once", x.often(0, 1), 1);
        Check.due("20 once in 7", x.often(0, 7), 1);
        Check.due("20 twice in 8", x.often(0, 8), 2);
        Check.due("20 9 in 60", x.often(0, 60), 9);
        Check.due("20 8 in 60", x.often(1, 60), 8);
        Check.due("20 none in 6", x.often(1, 6), 0);
        Check.due("20 one in 7", x.often(1, 7), 1);
        Check.due("20 never", x.often(2, 60), 0);
        x.years(1);
        Check.due("19 from now on", x.next(0), 6);
        Check.due("20 from now on", x.often(0, 6), 0);
        x.door(0, 0);
        Check.due("19 shut: never", x.next(0), Check.NONE);
        Check.due("19 shut: turned to the miser, as from line 1", x.next(1), 5);
        Check.due("20 both ways to the miser", x.often(1, 7), 2);
        x.speed(1);
        Check.due("19 at speed 1 at the wall", x.next(2), 3);
    }
}
