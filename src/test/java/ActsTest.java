/** Promises 9 to 15: what is done on a hill, and undone. */
public final class ActsTest {
    /** Let go from lines 2, 3, 4, 5, 6, 0, 1; a door in the way of line 2, a miser in that of line 3, a wall. */
    private static final String HILL = "c2,2,1,4,1,1;d1,2,1;m2,3,0;w1,6,1;";

    public static void main(String[] args) {
        years();
        fullYears();
        doors();
        builds();
        speeds();
        undos();
        forgotten();
        housesAndCells();
        Check.end();
    }

    private static void years() {
        SaintHill x = new SaintHill();
        Check.due("9 STATE", x.years(1), Check.STATE);
        Check.due("9 STATE ahead of BAD", x.years(0), Check.STATE);
        x = Check.told(HILL);
        Check.due("9 BAD 0", x.years(0), Check.BAD);
        Check.due("9 BAD 25", x.years(25), Check.BAD);
        Check.due("9 BAD below", x.years(-1), Check.BAD);
        Check.due("9 year 0", x.years(1), 0);
        Check.due("9 year 1", x.years(1), 1);
        Check.due("9 year 2", x.years(1), Check.NONE);
        Check.due("9 it is year 3", x.count(3), 3);
        Check.due("9 three acts", x.count(6), 3);
        Check.due("9 five more", x.years(5), 0);
        Check.due("9 year 8 to come", x.count(5), 3);
        Check.due("9 who got it", x.house(0, 4), 2);
        Check.due("9 who got it", x.house(1, 4), 1);
        Check.due("9 the wall got it never", x.house(2, 4), 0);
        Check.due("9 all", x.count(9), 3);
        Check.due("9 acts", x.count(6), 8);
    }

    private static void fullYears() {
        SaintHill x = Check.told(HILL);
        for (int k = 0; k < 41; k++) {
            x.years(24);
        }
        Check.due("9 year 984", x.count(3), 984);
        Check.due("9 FULL", x.years(16), Check.FULL);
        Check.due("9 nothing changed", x.count(3), 984);
        Check.due("9 BAD ahead of FULL", x.years(25), Check.BAD);
        Check.due("9 to year 999: 998 by 7 is 4", x.years(15), Check.NONE);
        Check.due("9 year 999", x.count(3), 999);
        Check.due("9 FULL by one", x.years(1), Check.FULL);
        Check.due("9 foretold beyond: 1001 by 7 is 0", x.rests(2), 0);
        Check.due("9 all got: 143 by the door, 143 by the miser", x.count(9), 286);
        Check.due("9 undone", x.undo(), 23);
        Check.due("9 room for one", x.years(1), Check.NONE);
    }

    private static void doors() {
        SaintHill x = new SaintHill();
        Check.due("10 no hill", x.door(0, 1), Check.BAD);
        x = Check.told(HILL);
        Check.due("10 STATE: open", x.door(0, 1), Check.STATE);
        Check.due("10 shut", x.door(0, 0), 6);
        Check.due("10 STATE: shut", x.door(0, 0), Check.STATE);
        Check.due("10 a miser shut", x.door(1, 0), 4);
        Check.due("10 a wall shut", x.door(2, 0), 0);
        Check.due("10 open again", x.door(0, 1), 1);
        Check.due("10 acts", x.count(6), 4);
        Check.due("10 who is open", x.count(4), 1);
        Check.due("10 BAD house", x.door(3, 0), Check.BAD);
        Check.due("10 BAD house below", x.door(-1, 0), Check.BAD);
        Check.due("10 BAD open 2", x.door(0, 2), Check.BAD);
        Check.due("10 BAD open -1", x.door(0, -1), Check.BAD);
        Check.due("10 no act by refusals", x.count(6), 4);
    }

    private static void builds() {
        SaintHill x = new SaintHill();
        Check.due("11 no hill", x.build(0, 1, 0), Check.BAD);
        x = Check.told(HILL);
        Check.due("11 STATE: it stands there", x.build(0, 1, 2), Check.STATE);
        Check.due("11 STATE: another one", x.build(0, 2, 3), Check.STATE);
        Check.due("11 built", x.build(0, 2, 6), 12);
        Check.due("11 it stands there", x.at(2, 6), 0);
        Check.due("11 nobody stands there", x.at(1, 2), Check.NONE);
        Check.due("11 built where it stood", x.build(1, 1, 2), 23);
        Check.due("11 least", x.build(2, 1, 0), 16);
        Check.due("11 acts", x.count(6), 3);
        Check.due("11 BAD house", x.build(3, 1, 1), Check.BAD);
        Check.due("11 BAD house below", x.build(-1, 1, 1), Check.BAD);
        Check.due("11 BAD tier 0", x.build(0, 0, 1), Check.BAD);
        Check.due("11 BAD tier 3", x.build(0, 3, 1), Check.BAD);
        Check.due("11 BAD line -1", x.build(0, 1, -1), Check.BAD);
        Check.due("11 BAD line 7", x.build(0, 1, 7), Check.BAD);
        Check.due("11 line 6", x.build(0, 1, 6), 26);
        x.years(2);
        x.door(1, 0);
        x.build(1, 2, 2);
        Check.due("11 it stays what it is", x.kind(1), 3);
        Check.due("11 it stays shut", x.house(1, 3), 0);
        Check.due("11 it got it before", x.house(1, 4), 1);
    }

    private static void speeds() {
        SaintHill x = new SaintHill();
        Check.due("12 STATE", x.speed(1), Check.STATE);
        Check.due("12 STATE ahead of BAD", x.speed(0), Check.STATE);
        x = Check.told(HILL);
        Check.due("12 BAD 0", x.speed(0), Check.BAD);
        Check.due("12 BAD 10", x.speed(10), Check.BAD);
        Check.due("12 9", x.speed(9), 4);
        Check.due("12 1", x.speed(1), 9);
        Check.due("12 count", x.count(8), 1);
        Check.due("12 acts", x.count(6), 2);
        Check.due("12 as it was: an act, too", x.speed(1), 1);
        Check.due("12 acts", x.count(6), 3);
        Check.due("12 let go so: it rests at the wall", x.rests(4), 2);
    }

    private static void undos() {
        SaintHill x = new SaintHill();
        Check.due("13 STATE", x.undo(), Check.STATE);
        x = Check.told(HILL);
        Check.due("13 STATE on a new hill", x.undo(), Check.STATE);
        x.years(3);
        x.door(0, 0);
        x.build(1, 1, 5);
        x.speed(7);
        x.door(0, 1);
        Check.due("13 the door", x.undo(), 6);
        Check.due("13 shut again", x.house(0, 3), 0);
        Check.due("13 the speed", x.undo(), 5);
        Check.due("13 as it was", x.count(8), 4);
        Check.due("13 the house", x.undo(), 4);
        Check.due("13 tier", x.house(1, 0), 2);
        Check.due("13 line", x.house(1, 1), 3);
        Check.due("13 the door", x.undo(), 3);
        Check.due("13 open again", x.house(0, 3), 1);
        Check.due("13 year 2, on the flat", x.undo(), 2);
        Check.due("13 all got", x.count(9), 2);
        Check.due("13 year 1", x.undo(), 1);
        Check.due("13 the miser has it not", x.house(1, 4), 0);
        Check.due("13 the year", x.count(3), 1);
        Check.due("13 year 0", x.undo(), 0);
        Check.due("13 the door has it not", x.house(0, 4), 0);
        Check.due("13 none", x.undo(), Check.STATE);
        Check.due("13 the year", x.count(3), 0);
    }

    private static void forgotten() {
        SaintHill x = Check.told(HILL);
        x.speed(9);
        x.years(23);
        Check.due("13 24 acts", x.count(6), 24);
        x.door(0, 0);
        Check.due("13 24 at most", x.count(6), 24);
        for (int k = 23; k >= 0; k--) {
            Check.due("13 undo to " + k, x.undo(), k);
        }
        Check.due("13 the oldest is forgotten", x.undo(), Check.STATE);
        Check.due("13 the speed stays", x.count(8), 9);
        Check.due("13 year 0", x.count(3), 0);
        Check.due("13 open", x.count(4), 7);
        Check.due("13 nobody got it", x.count(9), 0);
        x = Check.told("c9,2,1,4,1,1;d1,0,1;d9,6,0;m3,6,1;");
        x.years(2);
        x.years(1);
        x.build(0, 2, 3);
        x.speed(7);
        x.build(1, 8, 0);
        x.build(2, 1, 1);
        x.years(19);
        Check.due("13 24 acts", x.count(6), 24);
        for (int k = 0; k < 19; k++) {
            x.undo();
        }
        Check.due("13 back, behind one that is forgotten", x.undo(), 4);
        Check.due("13 the miser", x.at(3, 6), 2);
        Check.due("13 back", x.undo(), 3);
        Check.due("13 the second door", x.at(9, 6), 1);
        Check.due("13 back", x.undo(), 2);
        Check.due("13 the speed", x.count(8), 4);
        Check.due("13 back", x.undo(), 1);
        Check.due("13 the first door", x.at(1, 0), 0);
        Check.due("13 back", x.undo(), 0);
        Check.due("13 the first two years are forgotten", x.count(3), 2);
    }

    private static void housesAndCells() {
        SaintHill x = new SaintHill();
        Check.due("14 no hill", x.house(0, 0), Check.BAD);
        Check.due("15 no hill", x.at(1, 0), Check.BAD);
        x = Check.told(HILL);
        x.years(1);
        x.door(0, 0);
        Check.due("14 tier", x.house(0, 0), 1);
        Check.due("14 line", x.house(0, 1), 2);
        Check.due("14 wants", x.house(0, 2), 1);
        Check.due("14 shut", x.house(0, 3), 0);
        Check.due("14 got", x.house(0, 4), 1);
        Check.due("14 wants not", x.house(1, 2), 0);
        Check.due("14 open", x.house(1, 3), 1);
        Check.due("14 BAD what 5", x.house(0, 5), Check.BAD);
        Check.due("14 BAD what -1", x.house(0, -1), Check.BAD);
        Check.due("14 BAD house 3", x.house(3, 0), Check.BAD);
        Check.due("14 BAD house -1", x.house(-1, 0), Check.BAD);
        Check.due("15 the door", x.at(1, 2), 0);
        Check.due("15 the miser", x.at(2, 3), 1);
        Check.due("15 none", x.at(2, 2), Check.NONE);
        Check.due("15 the last cell", x.at(2, 6), Check.NONE);
        Check.due("15 BAD tier 0", x.at(0, 0), Check.BAD);
        Check.due("15 BAD tier 3", x.at(3, 0), Check.BAD);
        Check.due("15 BAD line -1", x.at(1, -1), Check.BAD);
        Check.due("15 BAD line 7", x.at(1, 7), Check.BAD);
    }
}
