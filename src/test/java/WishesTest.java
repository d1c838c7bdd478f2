/** Promises 21 to 25: doors by which it comes or does not, where to build, who sulks. */
public final class WishesTest {
    public static void main(String[] args) {
        aims();
        fewestAhead();
        shuns();
        sites();
        sulking();
        peaces();
        Check.end();
    }

    private static void aims() {
        SaintHill x = new SaintHill();
        Check.due("21 no hill", x.aim(0, 0, 0), Check.BAD);
        x = Check.told("c2,3,0,9,1,1;d1,3,0;d2,2,0;m2,6,0;");
        Check.due("21 none needed", x.aim(0, 0, 0), 0);
        Check.due("21 none needed", x.aim(0, 60, 1), 0);
        Check.due("21 one", x.aim(1, 0, 0), 1);
        Check.due("21 which", x.aim(1, 0, 1), 1);
        Check.due("21 never", x.aim(2, 0, 0), Check.NONE);
        Check.due("21 never", x.aim(2, 0, 1), Check.NONE);
        x.door(1, 0);
        Check.due("21 one shut, one opened", x.aim(1, 5, 0), 2);
        Check.due("21 which", x.aim(1, 5, 1), 3);
        x.door(0, 0);
        Check.due("21 one opened", x.aim(1, 5, 1), 2);
        Check.due("21 one opened", x.aim(0, 5, 1), 1);
        Check.due("21 nothing changes", x.count(4), 4);
        Check.due("21 BAD house 3", x.aim(3, 0, 0), Check.BAD);
        Check.due("21 BAD house -1", x.aim(-1, 0, 0), Check.BAD);
        Check.due("21 BAD d -1", x.aim(0, -1, 0), Check.BAD);
        Check.due("21 BAD d 61", x.aim(0, 61, 0), Check.BAD);
        Check.due("21 BAD what 2", x.aim(0, 0, 2), Check.BAD);
        Check.due("21 BAD what -1", x.aim(0, 0, -1), Check.BAD);
        x = Check.told("c2,2,1,9,1,1;d1,3,0;d2,2,0;");
        Check.due("21 in year 0 none", x.aim(1, 0, 1), 0);
        Check.due("21 in year 1 one", x.aim(1, 1, 1), 1);
        Check.due("21 in year 2 never", x.aim(1, 2, 1), Check.NONE);
    }

    /** Doors 0 and 1 together lead to house 3 (bits 3), and so does door 2 alone (bits 4). */
    private static void fewestAhead() {
        SaintHill x = Check.told("c4,3,0,9,1,1;p1,3,0;p2,2,0;d2,3,0;m4,3,0;w3,4,0;");
        Check.due("21 it rests at 2", x.rests(0), 2);
        Check.due("21 the fewest", x.aim(3, 0, 0), 1);
        Check.due("21 the fewest, which", x.aim(3, 0, 1), 4);
        x.door(0, 0);
        x.door(1, 0);
        Check.due("21 the two lead there", x.rests(0), 3);
        x = Check.told("c3,3,0,9,1,1;d1,0,0;p1,3,0;p2,3,0;d3,3,0;");
        Check.due("22 of several the least", x.shun(8, 0, 1), 2);
        Check.due("22 how many", x.shun(8, 0, 0), 1);
    }

    private static void shuns() {
        SaintHill x = new SaintHill();
        Check.due("22 STATE ahead of BAD", x.shun(-1, 61, 2), Check.STATE);
        x = Check.told("c2,3,0,9,1,1;d1,3,0;d2,2,0;");
        Check.due("22 one", x.shun(1, 0, 0), 1);
        Check.due("22 which", x.shun(1, 0, 1), 1);
        Check.due("22 it is not there", x.shun(2, 0, 1), 0);
        Check.due("22 none told", x.shun(0, 0, 1), 0);
        Check.due("22 both", x.shun(3, 0, 0), 2);
        Check.due("22 both, which", x.shun(3, 0, 1), 3);
        Check.due("22 BAD houses 4", x.shun(4, 0, 0), Check.BAD);
        Check.due("22 BAD houses -1", x.shun(-1, 0, 0), Check.BAD);
        Check.due("22 BAD d -1", x.shun(0, -1, 0), Check.BAD);
        Check.due("22 BAD d 61", x.shun(0, 61, 0), Check.BAD);
        Check.due("22 d 60", x.shun(0, 60, 0), 0);
        Check.due("22 BAD what 2", x.shun(0, 0, 2), Check.BAD);
        Check.due("22 BAD what -1", x.shun(0, 0, -1), Check.BAD);
        x = Check.told("c2,3,1,9,1,1;m1,3,0;d1,4,0;");
        Check.due("22 never", x.shun(1, 0, 0), Check.NONE);
        Check.due("22 never", x.shun(1, 0, 1), Check.NONE);
        Check.due("22 in year 1 none", x.shun(1, 1, 1), 0);
        Check.due("22 in year 1 the other", x.shun(3, 1, 1), 2);
        Check.due("22 none on a hill without houses", Check.told("c2,3,0,9,1,1;").shun(0, 0, 0), 0);
        Check.due("22 BAD on a hill without houses", Check.told("c2,3,0,9,1,1;").shun(1, 0, 0), Check.BAD);
        Check.due("22 a hill of six", Check.told("c9,0,0,9,1,1;m1,0,0;m2,0,0;m3,0,0;m4,0,0;m5,0,0;m6,0,0;")
                .shun(62, 0, 0), 0);
        x = Check.told("c9,6,0,9,1,1;m1,0,0;m2,0,0;m3,0,0;m4,0,0;m5,0,0;d6,0,0;");
        Check.due("22 the flat is none of six", x.shun(63, 0, 0), 0);
        Check.due("21 the flat is none of six", x.aim(5, 0, 0), Check.NONE);
    }

    private static void site(String of, SaintHill x, int house, int n, int tier, int line, int times) {
        Check.due("23 " + of + ": tier", x.site(house, n, 0), tier);
        Check.due("23 " + of + ": line", x.site(house, n, 1), line);
        Check.due("23 " + of + ": how often", x.site(house, n, 2), times);
    }

    private static void sites() {
        SaintHill x = new SaintHill();
        Check.due("23 no hill", x.site(0, 1, 0), Check.BAD);
        x = Check.told("c2,0,1,9,1,1;d2,3,0;");
        site("the first of all", x, 0, 7, 1, 0, 1);
        site("20 years", x, 0, 20, 1, 0, 3);
        Check.due("23 nothing changes", x.house(0, 0), 2);
        x.years(1);
        site("from now on", x, 0, 1, 1, 1, 1);
        site("from now on", x, 0, 8, 1, 1, 2);
        x = Check.told("c2,0,1,9,1,1;d2,3,0;w1,0,0;");
        site("where another one stands", x, 0, 1, 2, 0, 1);
        site("where another one stands", x, 0, 7, 1, 1, 1);
        x = Check.told("c2,3,0,9,1,1;p1,3,0;m2,0,0;");
        site("where the first one stands", x, 1, 4, 2, 3, 4);
        x = Check.told("c2,3,0,9,1,1;w1,0,0;d2,0,0;");
        x.door(1, 0);
        site("nowhere, and the first one stands on the first cell", x, 1, 4, 1, 1, 0);
        x = Check.told("c2,2,0,9,1,1;d1,2,0;");
        site("it stays", x, 0, 5, 1, 2, 5);
        x.door(0, 0);
        site("shut: nowhere", x, 0, 5, 1, 0, 0);
        x.speed(2);
        site("shut, but slow", x, 0, 5, 1, 2, 5);
        x = Check.told("c2,4,0,9,2,1;m1,0,0;");
        site("it tends", x, 0, 5, 1, 5, 5);
        Check.due("23 BAD house 1", x.site(1, 1, 0), Check.BAD);
        Check.due("23 BAD house -1", x.site(-1, 1, 0), Check.BAD);
        Check.due("23 BAD n 0", x.site(0, 0, 0), Check.BAD);
        Check.due("23 BAD n 21", x.site(0, 21, 0), Check.BAD);
        Check.due("23 BAD what 3", x.site(0, 1, 3), Check.BAD);
        Check.due("23 BAD what -1", x.site(0, 1, -1), Check.BAD);
        x = Check.told("c3,0,1,9,2,1;m3,0,0;");
        site("the edge gathers: lines 3 to 6", x, 0, 7, 3, 6, 4);
    }

    private static void sulking() {
        SaintHill x = new SaintHill();
        Check.due("24 STATE", x.sulks(), Check.STATE);
        x = Check.told("c2,3,0,9,1,1;d1,3,0;d2,2,1;");
        Check.due("24 who wants it not and has it", x.sulks(), 1);
        x.door(0, 0);
        Check.due("24 nobody", x.sulks(), 0);
        x.door(1, 0);
        Check.due("24 who wants it and has it not", x.sulks(), 2);
        Check.due("24 nothing changes", x.count(4), 0);
        Check.due("24 a miser cannot help it", Check.told("c2,3,0,9,1,1;m1,3,0;d2,3,1;").sulks(), 0);
        Check.due("24 slow: shut or not he has it", Check.told("c2,3,0,2,1,1;d1,3,0;").sulks(), 0);
        Check.due("24 a post office that would have it", Check.told("c2,3,0,2,1,1;p1,3,1;").sulks(), 1);
        x = Check.told("c2,3,0,9,1,1;d1,3,1;d2,3,1;");
        Check.due("24 he would not have it alone", x.sulks(), 0);
        x.door(0, 0);
        x.build(1, 2, 2);
        x.door(1, 0);
        Check.due("24 each alone would have it", x.sulks(), 3);
        x = Check.told("c2,3,1,9,1,1;d1,3,1;");
        x.door(0, 0);
        Check.due("24 who would have it this year", x.sulks(), 1);
        x = Check.told("c2,3,1,9,1,1;d1,3,0;");
        Check.due("24 who has it this year", x.sulks(), 1);
        x.years(1);
        Check.due("24 this year", x.sulks(), 0);
        Check.due("24 no houses", Check.told("c2,3,1,9,1,1;").sulks(), 0);
    }

    /** The doors of the way down are shut one behind the other, from the top. */
    private static void peaceOfThree() {
        SaintHill x = Check.told("c4,3,0,7,0,2;d4,0,0;d1,3,0;p4,2,0;d3,1,0;");
        Check.due("25 of three: it rests at 1", x.rests(0), 1);
        Check.due("25 of three: he sulks", x.sulks(), 2);
        Check.due("25 of three: thrice", x.peace(0), 3);
        Check.due("25 of three: the post office is open", x.peace(1), 4);
    }

    private static void peaces() {
        peaceOfThree();
        SaintHill x = new SaintHill();
        Check.due("25 STATE ahead of BAD", x.peace(2), Check.STATE);
        x = Check.told("c2,3,0,9,1,1;d1,3,0;d2,2,1;");
        Check.due("25 once", x.peace(0), 1);
        Check.due("25 who is open then", x.peace(1), 2);
        Check.due("25 nothing changes", x.count(4), 3);
        x.door(1, 0);
        Check.due("25 twice", x.peace(0), 2);
        Check.due("25 who is open then", x.peace(1), 2);
        Check.due("25 BAD 2", x.peace(2), Check.BAD);
        Check.due("25 BAD -1", x.peace(-1), Check.BAD);
        x = Check.told("c2,3,0,9,1,1;d1,3,1;d2,2,1;");
        Check.due("25 not at all", x.peace(0), 0);
        Check.due("25 as they are", x.peace(1), 3);
        x.door(0, 0);
        x.door(1, 0);
        Check.due("25 the least of them", x.peace(0), 1);
        Check.due("25 the least of them is open", x.peace(1), 1);
    }
}
