/** Promises 26 to 31: how it was let go, by where it rested; play, draws, images. */
public final class GuessesTest {
    public static void main(String[] args) {
        rollsRefused();
        laws();
        speeds();
        kinds();
        plays();
        draws();
        images();
        Check.end();
    }

    private static void rollsRefused() {
        SaintHill x = new SaintHill();
        Check.due("26 STATE ahead of BAD", x.rolls(8, 0, 0, 4), Check.STATE);
        Check.due("27 no hill", x.sorts(0, 0, 0, 1), Check.BAD);
        x = Check.told("c2,3,0,5,1,1;d1,3,0;");
        x.row(0, 0, 16);
        x.row(1, 0, 40);
        Check.due("26 BAD row 8", x.rolls(8, 0, 1, 0), Check.BAD);
        Check.due("26 BAD row -1", x.rolls(-1, 0, 1, 0), Check.BAD);
        Check.due("26 BAD n 0", x.rolls(2, 0, 0, 0), Check.BAD);
        Check.due("26 BAD n 17", x.rolls(1, 0, 17, 0), Check.BAD);
        Check.due("26 BAD n below", x.rolls(1, 0, -1, 0), Check.BAD);
        Check.due("26 BAD what 4", x.rolls(2, -1, 1, 4), Check.BAD);
        Check.due("26 BAD what -1", x.rolls(0, 0, 1, -1), Check.BAD);
        Check.due("26 NULL", x.rolls(2, 0, 1, 0), Check.NULL);
        Check.due("26 NULL ahead of PLACE", x.rolls(2, -1, 1, 0), Check.NULL);
        Check.due("26 PLACE below", x.rolls(0, -1, 1, 0), Check.PLACE);
        Check.due("26 PLACE beyond", x.rolls(0, 1, 16, 0), Check.PLACE);
        Check.due("26 PLACE wraps", x.rolls(0, Integer.MAX_VALUE, 16, 0), Check.PLACE);
        Check.due("26 16 of 16", x.rolls(0, 0, 16, 0), 8);
        Check.due("26 the last 16 of 40", x.rolls(1, 24, 16, 0), 8);
        Check.due("27 BAD house 1", x.sorts(1, 0, 0, 1), Check.BAD);
        Check.due("27 BAD house -1", x.sorts(-1, 0, 0, 1), Check.BAD);
        Check.due("27 BAD row 8", x.sorts(0, 8, 0, 1), Check.BAD);
        Check.due("27 BAD n 0", x.sorts(0, 2, 0, 0), Check.BAD);
        Check.due("27 BAD n 17", x.sorts(0, 1, 0, 17), Check.BAD);
        Check.due("27 NULL", x.sorts(0, 2, -1, 1), Check.NULL);
        Check.due("27 PLACE below", x.sorts(0, 0, -1, 1), Check.PLACE);
        Check.due("27 PLACE beyond", x.sorts(0, 0, 1, 16), Check.PLACE);
        Check.due("27 16 of 16: a door or a miser", x.sorts(0, 0, 0, 16), 10);
    }

    private static void laws() {
        SaintHill x = Check.told("c2,3,0,5,1,1;d1,3,0;");
        Check.row(x, 0, 0, -1, -1, 0, 9, -2);
        Check.due("26 starts", x.rolls(0, 0, 1, 0), 8);
        Check.due("26 drifts, year 0", x.rolls(0, 0, 1, 1), 127);
        Check.due("26 speeds", x.rolls(0, 0, 1, 2), 1022);
        Check.due("26 tends", x.rolls(0, 0, 1, 3), 2);
        Check.due("26 starts to the flat", x.rolls(0, 1, 1, 0), 119);
        Check.due("26 speeds to the flat", x.rolls(0, 1, 1, 2), 0);
        Check.due("26 tends to the flat", x.rolls(0, 1, 2, 3), 5);
        Check.due("26 drifts that leave it", x.rolls(0, 0, 3, 1), 126);
        Check.due("26 drifts that stay", x.rolls(0, 3, 1, 1), 127);
        Check.due("26 no such house", x.rolls(0, 4, 1, 0), 0);
        Check.due("26 nothing but -1 is the flat", x.rolls(0, 5, 1, 0), 0);
        x.years(1);
        Check.due("26 drifts from this year on", x.rolls(0, 0, 1, 1), 1);
        Check.due("26 drifts from this year on, flat", x.rolls(0, 1, 1, 1), 126);
        Check.due("26 nothing changes", x.count(5), 3);
        x = Check.told("c2,3,2,5,1,1;d1,3,0;");
        Check.row(x, 0, -1, 0);
        Check.due("26 starts with a drift of 2", x.rolls(0, 0, 2, 0), 2);
        Check.due("26 no drift", x.rolls(0, 0, 2, 1), 0);
        x = Check.told("c2,3,2,5,0,2;p1,3,0;d2,2,0;");
        Check.row(x, 0, 1, -1);
        Check.due("26 it is so by 3 alone", x.rolls(0, 0, 1, 0), 8);
        Check.due("26 by each drift, at the speed of now", x.rolls(0, 0, 1, 1), 127);
        Check.due("26 by each drift but none", x.rolls(0, 0, 2, 1), 126);
        Check.due("26 by speeds 2 to 9", x.rolls(0, 0, 1, 2), 1020);
        Check.due("26 by tend 0", x.rolls(0, 0, 1, 3), 1);
    }

    private static void speeds() {
        SaintHill x = Check.told("c3,3,0,5,1,1;p1,3,0;p2,3,0;d3,3,0;");
        Check.row(x, 0, 0, 1, 2, 2);
        Check.due("26 speed 1", x.rolls(0, 0, 1, 2), 2);
        Check.due("26 speed 2", x.rolls(0, 1, 1, 2), 4);
        Check.due("26 speeds 3 to 9", x.rolls(0, 2, 2, 2), 1016);
        x.speed(1);
        Check.due("26 starts at the speed of now", x.rolls(0, 0, 1, 0), 8);
        Check.due("26 tends at the speed of now", x.rolls(0, 0, 1, 3), 2);
    }

    private static void kinds() {
        SaintHill x = Check.told("c2,3,0,5,1,1;d1,3,0;d2,2,0;d2,4,0;");
        Check.row(x, 0, -1, 0, 0, 1, 2);
        Check.due("27 by a post office on the flat", x.sorts(0, 0, 0, 1), 4);
        Check.due("27 a door or a miser", x.sorts(0, 0, 1, 2), 10);
        Check.due("27 not so", x.sorts(0, 0, 2, 2), 0);
        Check.due("27 a wall", x.sorts(0, 0, 3, 1), 16);
        Check.due("27 a pump", x.sorts(0, 0, 4, 1), 32);
        x.door(0, 0);
        Check.due("27 shut: a door, a post office, a wall", x.sorts(0, 0, 3, 1), 22);
        Check.due("27 shut: a miser", x.sorts(0, 0, 1, 1), 8);
        Check.due("27 of another house", x.sorts(2, 0, 3, 1), 62);
        Check.due("27 nothing changes", x.kind(0), 1);
    }

    private static void plays() {
        SaintHill x = new SaintHill();
        Check.due("28 no hill", x.play(0, 0, 0), Check.BAD);
        x = Check.told("c2,3,1,9,1,1;d1,3,0;d2,2,0;");
        int[][] due = {{0, 3, 7, 10}, {1, 3, 21, 100}, {1, 5, 1, 4}, {0, 0, 1, 1}, {1, 0, 0, 1}, {0, 10, 0, 1},
            {1, 10, 0, 1}, {0, 8, 1, 5}, {1, 4, 6, 25}};
        for (int[] d : due) {
            Check.due("28 above of play(" + d[0] + ", " + d[1] + ")", x.play(d[0], d[1], 0), d[2]);
            Check.due("28 below of play(" + d[0] + ", " + d[1] + ")", x.play(d[0], d[1], 1), d[3]);
        }
        Check.due("28 nothing changes", x.count(4), 3);
        x.door(0, 0);
        Check.due("28 shut, above", x.play(0, 3, 0), 3);
        Check.due("28 shut, below", x.play(0, 3, 1), 10);
        Check.due("28 shut, all made otherwise", x.play(0, 10, 0), 1);
        Check.due("28 BAD house 2", x.play(2, 0, 0), Check.BAD);
        Check.due("28 BAD house -1", x.play(-1, 0, 0), Check.BAD);
        Check.due("28 BAD c 11", x.play(0, 11, 0), Check.BAD);
        Check.due("28 BAD c -1", x.play(0, -1, 0), Check.BAD);
        Check.due("28 BAD what 2", x.play(0, 0, 2), Check.BAD);
        Check.due("28 BAD what -1", x.play(0, 0, -1), Check.BAD);
        x.years(1);
        Check.due("28 this year", x.play(0, 3, 0), 0);
        // Through five posts, each open by 7 of 10, to the sixth house, a door that must be open, too.
        x = Check.told("c6,3,0,9,1,1;p1,3,0;p2,3,0;p3,3,0;p4,3,0;p5,3,0;d6,3,0;");
        Check.due("28 six houses, above", x.play(5, 3, 0), 117649);
        Check.due("28 six houses, below", x.play(5, 3, 1), 1000000);
    }

    /** By seed 1 the lines are 0 0 2 6 6 6 2 1 1 1; ahead of the seventh house 0 of two is made otherwise. */
    private static void draws() {
        SaintHill x = new SaintHill();
        Check.due("29 STATE ahead of BAD", x.drawn(61, 0, 2), Check.STATE);
        x = Check.told("c2,3,0,9,1,1;d1,0,0;d1,6,0;");
        x.years(1);
        int[][] due = {{0, 0, Check.NONE}, {1, 1, 0}, {2, 2, 0}, {3, 2, 0}, {4, 3, 0}, {5, 4, 0}, {6, 5, 1}, {10, 5, 1}};
        for (int[] d : due) {
            Check.due("29 how often in " + d[0], x.drawn(d[0], 1, 0), d[1]);
            Check.due("29 at which in " + d[0], x.drawn(d[0], 1, 1), d[2]);
        }
        Check.due("29 nothing changes: open", x.count(4), 3);
        Check.due("29 nothing changes: year", x.count(3), 1);
        Check.due("29 nothing changes: got", x.count(9), 0);
        x = Check.told("c2,3,0,9,1,1;d1,2,0;d1,6,0;");
        Check.due("29 made otherwise ahead of the year", x.drawn(10, 1, 0), 4);
        x.door(0, 0);
        Check.due("29 opened ahead of the year", x.drawn(7, 1, 0), 4);
        x = Check.told("c2,3,0,9,1,1;d1,6,0;d1,4,0;");
        Check.due("29 none is made otherwise before", x.drawn(6, 1, 0), 3);
        x = Check.told("c2,3,0,9,1,1;d1,2,0;");
        Check.due("29 the only one is made otherwise", x.drawn(10, 1, 0), 1);
        Check.due("29 BAD n -1", x.drawn(-1, 1, 0), Check.BAD);
        Check.due("29 BAD n 61", x.drawn(61, 1, 0), Check.BAD);
        Check.due("29 BAD seed 0", x.drawn(1, 0, 0), Check.BAD);
        Check.due("29 BAD seed 1000000", x.drawn(1, 1000000, 0), Check.BAD);
        Check.due("29 BAD what 2", x.drawn(1, 1, 2), Check.BAD);
        Check.due("29 BAD what -1", x.drawn(1, 1, -1), Check.BAD);
        x = Check.told("c2,3,0,9,1,1;");
        Check.due("29 no houses", x.drawn(60, 999999, 0), 0);
        Check.due("29 no houses", x.drawn(60, 999999, 1), Check.NONE);
        x = Check.told("c2,0,0,9,1,1;m2,0,0;m2,1,0;m2,2,0;m2,4,0;m2,5,0;m2,6,0;");
        x.years(24);
        Check.due("29 what it got before does not count", x.drawn(6, 1, 1), 5);
        Check.due("29 what it got before does not count", x.drawn(6, 1, 0), 6);
    }

    private static void images() {
        SaintHill x = new SaintHill();
        Check.due("30 BAD 2", x.image(2), Check.BAD);
        Check.due("30 BAD -1", x.image(-1), Check.BAD);
        Check.due("30 STATE", x.image(1), Check.STATE);
        Check.due("31 STATE, still", x.restore(1), Check.STATE);
        Check.feed(x, "c2,3,1,9,0,2;d1,3,1;p2,2,0;");
        x.hill();
        x.years(1);
        x.door(1, 0);
        Check.due("30 kept", x.image(1), 1);
        Check.due("30 acts stay", x.count(6), 2);
        Check.due("31 the other one was not kept", x.restore(0), Check.STATE);
        x.build(0, 2, 0);
        x.speed(4);
        x.years(2);
        x.image(0);
        Check.due("31 restored", x.restore(1), 1);
        Check.due("31 the year", x.count(3), 1);
        Check.due("31 open", x.count(4), 1);
        Check.due("31 speed", x.count(8), 9);
        Check.due("31 got", x.count(9), 1);
        Check.due("31 where it stood", x.at(1, 3), 0);
        Check.due("31 no act", x.count(6), 0);
        Check.due("31 none can be undone", x.undo(), Check.STATE);
        Check.feed(x, "c9,6,6,3,2,1;m9,6,0;");
        Check.due("7 another hill", x.hill(), 1);
        Check.due("31 over another hill", x.restore(0), 1);
        Check.due("31 tiers", x.count(1), 2);
        Check.due("31 houses", x.count(2), 2);
        Check.due("31 the year", x.count(3), 3);
        Check.due("31 the line", x.count(5), 6);
        Check.due("31 built elsewhere", x.at(2, 0), 0);
        Check.due("31 kind", x.kind(1), 2);
        Check.due("31 wants", x.house(0, 2), 1);
        Check.due("31 it tends as it did", x.line(2, 0), 5);
        x.years(3);
        x.door(0, 0);
        Check.due("31 once more", x.restore(0), 1);
        Check.due("31 the image stayed as it was", x.count(3), 3);
        Check.due("31 the image stayed open", x.count(4), 1);
        Check.due("31 BAD 2", x.restore(2), Check.BAD);
        Check.due("31 BAD -1", x.restore(-1), Check.BAD);
    }
}
