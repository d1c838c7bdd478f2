/** Section 3 of the document, promises 16 to 31: the first and the last of all that is foretold, none and all. */
public final class ForetoldEdgesTest {
    /** From LINE n it comes to rest at HOUSE n, from LINE 6 on the FLAT. */
    private static final String MISERS = "m1,0,0;m1,1,0;m1,2,0;m1,3,0;m1,4,0;m1,5,0;";
    /** Doors that lead from one to the next while they are shut: behind four of them it has a SPEED of 1. */
    private static final String CHAIN = "d1,3,#;d2,2,#;d3,3,#;d4,2,#;d5,3,#;d6,0,#;";

    public static void main(String[] args) {
        farthestYears();
        nextOfAll();
        oftenOfAll();
        aimsFromNoneToSix();
        aimsOfSeveral();
        shunsFromNoneToSix();
        shunsOfAHillWithoutHouses();
        sites();
        sitesWhereOthersStand();
        sulksOfNoneAndMany();
        peaces();
        startsAndDrifts();
        speedsOfAll();
        tendsOfAll();
        rowsOfOneToSixteen();
        rowsOfEachLane();
        sortsOfNoneAndAll();
        Check.end();
    }

    private static SaintHill chain(int wants) {
        return Check.told("c6,3,0,9,1,1;" + CHAIN.replace("#", Integer.toString(wants)));
    }

    /** Five post offices that are shut on one LINE, and a door that is shut behind them. */
    private static SaintHill sixShut() {
        SaintHill x = Check.told("c6,3,0,9,1,1;p1,3,0;p2,3,0;p3,3,0;p4,3,0;p5,3,0;d6,3,0;");
        for (int house = 0; house < 6; house++) {
            x.door(house, 0);
        }
        return x;
    }

    private static void farthestYears() {
        SaintHill x = Check.told("c2,0,1,9,1,1;" + MISERS);
        for (int d = 0; d <= 60; d++) {
            int line = d % 7;
            Check.due("16 in " + d, x.rests(d), line == 6 ? Check.NONE : line);
            Check.due("17 the top in " + d, x.line(0, d), line);
            Check.due("17 the last TIER in " + d, x.line(2, d), line == 6 ? 6 : Check.NONE);
            Check.due("18 in " + d, x.left(d), 9);
        }
        for (int d : new int[] {-1, 61, Integer.MIN_VALUE, Integer.MAX_VALUE}) {
            Check.due("16 BAD " + d, x.rests(d), Check.BAD);
            Check.due("17 BAD " + d, x.line(0, d), Check.BAD);
            Check.due("18 BAD " + d, x.left(d), Check.BAD);
        }
        Check.due("16 nothing changes", x.count(3), 0);
    }

    /** "behind how many YEARS (0 to 60) it RESTS at a HOUSE first; NONE". */
    private static void nextOfAll() {
        for (int start = 0; start <= 6; start++) {
            for (int drift = 0; drift <= 6; drift++) {
                SaintHill x = Check.told("c2," + start + "," + drift + ",9,1,1;" + MISERS);
                for (int house = 0; house < 6; house++) {
                    int due = Check.NONE;
                    for (int d = 60; d >= 0; d--) {
                        due = (start + drift * d) % 7 == house ? d : due;
                    }
                    Check.due("19 START " + start + ", DRIFT " + drift + ", HOUSE " + house, x.next(house), due);
                }
            }
        }
    }

    private static void oftenOfAll() {
        SaintHill x = Check.told("c2,0,1,9,1,1;" + MISERS);
        for (int n = 1; n <= 60; n++) {
            for (int house = 0; house < 6; house++) {
                Check.due("20 HOUSE " + house + " in " + n, x.often(house, n), (n + 6 - house) / 7);
            }
        }
        x = Check.told("c2,2,0,9,1,1;" + MISERS);
        for (int n = 1; n <= 60; n++) {
            Check.due("20 each of " + n, x.often(2, n), n);
            Check.due("20 none of " + n, x.often(3, n), 0);
        }
        Check.due("20 BAD 0", x.often(2, 0), Check.BAD);
        Check.due("20 BAD 61", x.often(2, 61), Check.BAD);
    }

    private static void aimsFromNoneToSix() {
        SaintHill x = sixShut();
        for (int shut = 6; shut >= 1; shut--) {
            // The lowest of them are OPEN again, one by one.
            int due = 63 & ~((1 << 6 - shut) - 1);
            Check.due("21 how many of " + shut, x.aim(5, 0, 0), shut);
            Check.due("21 which of " + shut, x.aim(5, 0, 1), due);
            Check.due("21 likewise in 60 YEARS", x.aim(5, 60, 1), due);
            x.door(6 - shut, 1);
        }
        Check.due("21 none", x.aim(5, 0, 0), 0);
        Check.due("21 none, which", x.aim(5, 0, 1), 0);
        x.speed(1);
        Check.due("21 too slow: NONE", x.aim(5, 0, 0), Check.NONE);
        Check.due("21 too slow: NONE", x.aim(5, 0, 1), Check.NONE);
        Check.due("21 the first has it so", x.aim(0, 0, 1), 0);
        x = Check.told("c2,0,1,9,1,1;" + MISERS);
        for (int d = 0; d <= 60; d++) {
            Check.due("21 misers in " + d, x.aim(3, d, 0), d % 7 == 3 ? 0 : Check.NONE);
        }
    }

    /** Post offices 1 and 2 shut turn it to the miser as one of them alone does: "of several the least". */
    private static void aimsOfSeveral() {
        SaintHill x = Check.told("c3,3,0,9,1,1;m3,6,0;p1,3,0;p1,2,0;m3,2,0;d3,3,0;");
        Check.due("21 one", x.aim(3, 0, 0), 1);
        Check.due("21 the one", x.aim(3, 0, 1), 2);
        Check.due("21 none needed", x.aim(4, 0, 1), 0);
        x = Check.told("c4,3,0,9,1,1;p1,3,0;p3,3,0;m4,2,0;");
        Check.due("21 by either: how many", x.aim(2, 0, 0), 1);
        Check.due("21 by either: the least", x.aim(2, 0, 1), 1);
        x.door(0, 0);
        x.door(1, 0);
        Check.due("21 it comes there", x.aim(2, 0, 1), 0);
        x.build(2, 4, 3);
        Check.due("21 both are opened", x.aim(2, 0, 1), 3);
    }

    private static void shunsFromNoneToSix() {
        SaintHill x = chain(0);
        int[] due = {0, 1, 3, 7, 15};
        for (int told = 0; told <= 4; told++) {
            Check.due("22 the first " + told + " of five", x.shun(due[told], 0, 0), told);
            Check.due("22 the first " + told + " of five, which", x.shun(due[told], 0, 1), due[told]);
            Check.due("22 in 60 YEARS", x.shun(due[told], 60, 1), due[told]);
        }
        Check.due("22 the fifth has it, shut or not", x.shun(31, 0, 0), Check.NONE);
        Check.due("22 the fifth has it, shut or not", x.shun(31, 0, 1), Check.NONE);
        Check.due("22 all", x.shun(63, 0, 1), Check.NONE);
        Check.due("22 all but the first", x.shun(62, 0, 1), 0);
        Check.due("22 all but the second", x.shun(61, 0, 1), 1);
        Check.due("22 one where it is not", x.shun(32, 0, 1), 0);
        Check.due("22 64 is none", x.shun(64, 0, 0), Check.BAD);
        Check.due("22 -1 is none", x.shun(-1, 0, 0), Check.BAD);
        x.build(4, 6, 6);
        Check.due("22 behind four it is on the FLAT", x.shun(63, 0, 1), 15);
        Check.due("22 behind four it is on the FLAT", x.shun(63, 0, 0), 4);
        x = Check.told("c2,0,1,9,1,1;" + MISERS);
        for (int d = 0; d <= 60; d++) {
            Check.due("22 misers in " + d, x.shun(63, d, 0), d % 7 == 6 ? 0 : Check.NONE);
        }
    }

    private static void shunsOfAHillWithoutHouses() {
        SaintHill x = Check.told("c2,0,1,9,1,1;");
        Check.due("22 none", x.shun(0, 0, 0), 0);
        Check.due("22 none", x.shun(0, 60, 1), 0);
        Check.due("22 no HOUSE 0", x.shun(1, 0, 0), Check.BAD);
        x = Check.told("c2,0,1,9,1,1;d1,0,0;d1,1,0;");
        Check.due("22 both", x.shun(3, 0, 1), 1);
        Check.due("22 no HOUSE 2", x.shun(4, 0, 1), Check.BAD);
    }

    private static void site(String of, SaintHill x, int house, int n, int tier, int line, int times) {
        Check.due("23 " + of + ": TIER", x.site(house, n, 0), tier);
        Check.due("23 " + of + ": LINE", x.site(house, n, 1), line);
        Check.due("23 " + of + ": how often", x.site(house, n, 2), times);
    }

    private static void sites() {
        for (int n = 1; n <= 20; n++) {
            site("each of " + n, Check.told("c9,6,0,9,1,1;m9,0,0;"), 0, n, 1, 6, n);
            site("the first cell in " + n, Check.told("c9,0,1,9,1,1;m9,6,0;"), 0, n, 1, 0, (n + 6) / 7);
            SaintHill x = Check.told("c9,0,1,9,1,1;d9,6,0;");
            x.door(0, 0);
            site("nowhere in " + n, x, 0, n, 1, 0, 0);
        }
        SaintHill x = Check.told("c9,5,1,9,2,9;m1,0,0;");
        site("the last cell of all", x, 0, 7, 9, 6, 2);
        site("the last cell of all", x, 0, 20, 9, 6, 6);
        site("in one YEAR the first TIER does", x, 0, 1, 1, 5, 1);
        x.build(0, 9, 6);
        site("it stays", x, 0, 7, 9, 6, 2);
        Check.due("23 BAD 0", x.site(0, 0, 0), Check.BAD);
        Check.due("23 BAD 21", x.site(0, 21, 0), Check.BAD);
    }

    /** "on a TIER and LINE where no other one stands". */
    private static void sitesWhereOthersStand() {
        SaintHill x = Check.told("c3,0,0,9,1,1;p1,0,0;p2,0,0;m3,6,0;");
        site("behind both post offices", x, 2, 5, 3, 0, 5);
        x.build(2, 3, 0);
        site("where it stands itself", x, 2, 5, 3, 0, 5);
        site("a post office goes nowhere better", x, 0, 5, 1, 0, 0);
        x = Check.told("c2,6,0,9,1,1;d1,0,0;d1,1,0;d1,2,0;d1,3,0;d1,4,0;d2,0,0;");
        x.door(5, 0);
        site("five others on the first cells", x, 5, 20, 1, 5, 0);
        x.door(5, 1);
        site("five others beside the way", x, 5, 20, 1, 6, 20);
        x = Check.told("c2,0,0,9,1,1;m1,0,0;m2,3,0;");
        site("who stands ahead keeps it", x, 1, 20, 1, 1, 0);
    }

    private static void sulksOfNoneAndMany() {
        Check.due("24 no HOUSES", Check.told("c2,0,1,9,1,1;").sulks(), 0);
        SaintHill x = chain(1);
        Check.due("24 the first has it, and wants it", x.sulks(), 0);
        for (int house = 0; house < 6; house++) {
            x.door(house, 0);
        }
        Check.due("24 four of six would have it", x.sulks(), 15);
        x.door(3, 1);
        Check.due("24 those ahead of who has it", x.sulks(), 7);
        x.door(0, 1);
        Check.due("24 the first has it again", x.sulks(), 0);
        x = chain(0);
        Check.due("24 who has it, and would not", x.sulks(), 1);
        for (int house = 0; house < 4; house++) {
            x.door(house, 0);
        }
        Check.due("24 who would have it either way", x.sulks(), 0);
        x.door(4, 0);
        Check.due("24 who would have it either way", x.sulks(), 0);
        x = Check.told("c6,3,0,9,1,1;w1,0,0;w1,1,0;w1,2,0;w1,4,0;w1,5,0;d6,3,0;");
        Check.due("24 the sixth", x.sulks(), 32);
        x.speed(2);
        Check.due("24 the sixth, slow: he would have it either way", x.sulks(), 0);
    }

    private static void peaces() {
        Check.due("25 no HOUSES: how often", Check.told("c2,0,1,9,1,1;").peace(0), 0);
        Check.due("25 no HOUSES: who", Check.told("c2,0,1,9,1,1;").peace(1), 0);
        SaintHill x = chain(0);
        for (int shut = 0; shut <= 4; shut++) {
            Check.due("25 how often behind " + shut, x.peace(0), 4 - shut);
            Check.due("25 who is OPEN behind " + shut, x.peace(1), 48);
            Check.due("25 nothing changes", x.count(6), shut);
            x.door(shut, 0);
        }
        x = chain(1);
        Check.due("25 not at all", x.peace(0), 0);
        Check.due("25 all are OPEN", x.peace(1), 63);
        for (int house = 0; house < 6; house++) {
            x.door(house, 0);
        }
        Check.due("25 the least of four", x.peace(0), 1);
        Check.due("25 the least of four is OPEN", x.peace(1), 1);
        x = Check.told("c6,3,0,9,1,1;d5,3,1;d4,2,1;d3,3,1;d2,2,1;d1,3,1;d6,0,1;");
        for (int house = 0; house < 6; house++) {
            x.door(house, 0);
        }
        Check.due("25 from the least on, up the hill", x.peace(0), 4);
        Check.due("25 from the least on, up the hill: who", x.peace(1), 30);
    }

    private static int restsFrom(int line) {
        return line == 6 ? -1 : line;
    }

    /** "STARTS (0 to 6, bits), DRIFTS (0 to 6)". */
    private static void startsAndDrifts() {
        for (int start = 0; start <= 6; start++) {
            for (int drift = 0; drift <= 6; drift++) {
                for (int year = 0; year <= 7; year += 7) {
                    SaintHill x = Check.told("c2,3,4,9,1,1;" + MISERS);
                    for (int k = 0; k < year; k++) {
                        x.years(1);
                    }
                    x.row(0, 0, 16);
                    for (int k = 0; k < 16; k++) {
                        x.set(0, k, restsFrom((start + 4 * k) % 7));
                    }
                    Check.due("26 START " + start, x.rolls(0, 0, 16, 0), 1 << start);
                    for (int k = 0; k < 16; k++) {
                        x.set(0, k, restsFrom((3 + drift * k) % 7));
                    }
                    Check.due("26 DRIFT " + drift, x.rolls(0, 0, 16, 1), 1 << drift);
                    Check.due("26 all DRIFTS in one YEAR", x.rolls(0, 0, 1, 1), 127);
                }
            }
        }
        SaintHill x = Check.told("c2,3,4,9,1,1;");
        Check.row(x, 0, -1, 0);
        Check.due("26 all STARTS", x.rolls(0, 0, 1, 0), 127);
        Check.due("26 all DRIFTS", x.rolls(0, 0, 1, 1), 127);
        Check.due("26 all SPEEDS", x.rolls(0, 0, 1, 2), 1022);
        Check.due("26 all TENDS", x.rolls(0, 0, 1, 3), 7);
        for (int what = 0; what <= 3; what++) {
            Check.due("26 none by what " + what, x.rolls(0, 0, 2, what), 0);
        }
    }

    /** "SPEEDS (1 to 9)". */
    private static void speedsOfAll() {
        SaintHill x = Check.told("c7,3,0,5,1,1;p1,3,0;p2,3,0;p3,3,0;p4,3,0;p5,3,0;p6,3,0;");
        Check.row(x, 0, 0, 1, 2, 3, 4, 5, -1);
        for (int house = 0; house < 6; house++) {
            Check.due("26 SPEED " + (house + 1), x.rolls(0, house, 1, 2), 1 << house + 1);
        }
        Check.due("26 SPEEDS 7 to 9", x.rolls(0, 6, 1, 2), 896);
        for (int house = 0; house < 6; house++) {
            x.door(house, 0);
        }
        for (int k = 1; k < 6; k++) {
            x.build(k, k + 1, k % 2 == 0 ? 3 : 2);
        }
        for (int k = 0; k < 4; k++) {
            Check.due("26 two SPEEDS a shut one", x.rolls(0, k, 1, 2), 3 << 2 * k + 1);
        }
        Check.due("26 SPEED 9 at the fifth", x.rolls(0, 4, 1, 2), 512);
        Check.due("26 no SPEED at the sixth", x.rolls(0, 5, 1, 2), 0);
        Check.due("26 no SPEED to the FLAT", x.rolls(0, 6, 1, 2), 0);
    }

    /** "TENDS (0 to 2)". */
    private static void tendsOfAll() {
        SaintHill x = Check.told("c2,3,0,5,1,1;m1,2,0;m1,3,0;m1,4,0;m1,0,0;");
        Check.row(x, 0, 0, 1, 2, 3, -1);
        int[] due = {1, 2, 4, 0, 0};
        for (int k = 0; k < 5; k++) {
            Check.due("26 TENDS at " + k, x.rolls(0, k, 1, 3), due[k]);
        }
        x = Check.told("c2,0,0,5,1,1;m1,0,0;");
        Check.row(x, 0, 0);
        Check.due("26 TENDS at LINE 0", x.rolls(0, 0, 1, 3), 3);
        x = Check.told("c2,6,0,5,1,1;m1,6,0;");
        Check.row(x, 0, 0);
        Check.due("26 TENDS at LINE 6", x.rolls(0, 0, 1, 3), 6);
    }

    /** "n YEARS (1 to 16)": the n-th ITEM counts, the next does not. */
    private static void rowsOfOneToSixteen() {
        for (int wrong = 0; wrong <= 17; wrong++) {
            SaintHill x = Check.told("c2,0,1,9,1,1;" + MISERS);
            x.row(0, 2, 40);
            for (int from : new int[] {0, 22}) {
                for (int k = 0; k < 18; k++) {
                    x.set(0, from + k, k == wrong ? 77 : restsFrom(k % 7));
                }
                for (int n = 1; n <= 16; n++) {
                    Check.due("26 ITEM " + wrong + " is wrong, of " + n, x.rolls(0, from, n, 0), n > wrong ? 0 : 1);
                    int kinds = n > wrong ? 0 : n < 6 ? 62 : 10;
                    Check.due("27 ITEM " + wrong + " is wrong, of " + n, x.sorts(5, 0, from, n), kinds);
                }
                Check.due("26 17 of them", x.rolls(0, from, 17, 0), Check.BAD);
                Check.due("26 none of them", x.rolls(0, from, 0, 0), Check.BAD);
                Check.due("27 17 of them", x.sorts(5, 0, from, 17), Check.BAD);
                Check.due("27 none of them", x.sorts(5, 0, from, 0), Check.BAD);
            }
        }
    }

    private static void rowsOfEachLane() {
        for (int lane = 0; lane <= 2; lane++) {
            SaintHill x = Check.told("c2,6,1,9,1,1;" + MISERS);
            x.row(lane, lane, 40);
            x.set(lane, 38, -1);
            x.set(lane, 39, 256);
            Check.due("26 LANE " + lane + ", the last but one", x.rolls(lane, 38, 1, 0), 64);
            Check.due("26 LANE " + lane + ", 256", x.rolls(lane, 39, 1, 0), lane == 0 ? 1 : 0);
            Check.due("26 LANE " + lane + ", the last two", x.rolls(lane, 38, 2, 0), lane == 0 ? 64 : 0);
            Check.due("26 LANE " + lane + ", beyond", x.rolls(lane, 39, 2, 0), Check.PLACE);
            Check.due("27 LANE " + lane + ", the last but one", x.sorts(0, lane, 38, 1), 62);
            Check.due("27 LANE " + lane + ", the last two", x.sorts(0, lane, 38, 2), lane == 0 ? 10 : 0);
            Check.due("27 LANE " + lane + ", beyond", x.sorts(0, lane, 39, 2), Check.PLACE);
        }
    }

    /** "KINDS (bits 1 to 5) of a HOUSE". */
    private static void sortsOfNoneAndAll() {
        SaintHill x = Check.told("c3,3,0,9,1,1;d1,0,0;d2,3,0;d3,2,0;d3,3,0;d3,4,0;");
        Check.row(x, 0, -1, 0, 1, 2, 3, 4, 5, -2);
        Check.due("27 beside the way: not on the FLAT", x.sorts(0, 0, 0, 1), 0);
        Check.due("27 beside the way: all", x.sorts(0, 0, 2, 1), 62);
        int[] due = {0, 0, 10, 16, 4, 32, 0, 0};
        int[] shut = {0, 0, 8, 16, 0, 38, 0, 0};
        int[] slow = {0, 0, 62, 0, 0, 0, 0, 0};
        for (int k = 0; k < 8; k++) {
            Check.due("27 in the way, ITEM " + k, x.sorts(1, 0, k, 1), due[k]);
        }
        x.door(1, 0);
        for (int k = 0; k < 8; k++) {
            Check.due("27 shut in the way, ITEM " + k, x.sorts(1, 0, k, 1), shut[k]);
        }
        x.speed(1);
        for (int k = 0; k < 8; k++) {
            Check.due("27 slow, ITEM " + k, x.sorts(1, 0, k, 1), slow[k]);
        }
    }
}
