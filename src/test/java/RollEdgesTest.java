/** Section 2 of the document, promises 9 to 18: edges of the LINES, SPEED that ends, YEARS that end, ACTS forgotten. */
public final class RollEdgesTest {
    public static void main(String[] args) {
        turnedFromEveryLine();
        tendingFromEveryLine();
        tendsIntoAHouseAtTheEdge();
        everySpeedAtEveryHouse();
        speedOfSeveral();
        turnedToDoesNothing();
        lastTier();
        everyThatDividesNone();
        lineOfEveryYear();
        lastYear();
        actsOfEachSort();
        actsOfAllSorts();
        yearsAreAnActEach();
        yearsUndone();
        forgottenAtOnce();
        doorsOfEachKind();
        builtAtTheEdges();
        Check.end();
    }

    private static int kept(int line) {
        return Math.max(0, Math.min(6, line));
    }

    /** How a house turns it: d and p stand for shut ones, o for a post office that is OPEN. */
    private static int turn(char house, int tier) {
        switch (house) {
            case 'w':
                return -1;
            case 'u':
                return 1;
            case 'o':
                return 0;
            default:
                return tier % 2 == 0 ? 1 : -1;
        }
    }

    private static int slower(char house) {
        return house == 'd' || house == 'p' ? 2 : 1;
    }

    private static SaintHill house(char house, int tier, int line, int start, int speed) {
        String law = "c9," + start + ",0," + speed + ",1,1;";
        SaintHill x = Check.told(law + (house == 'o' ? 'p' : house) + tier + "," + line + ",0;");
        if (house == 'd' || house == 'p') {
            x.door(0, 0);
        }
        return x;
    }

    /** "it stays on LINES 0 and 6: at an edge it goes no farther; so below, too". */
    private static void turnedFromEveryLine() {
        for (char house : "dpowu".toCharArray()) {
            for (int tier = 1; tier <= 9; tier++) {
                for (int line = 0; line <= 6; line++) {
                    SaintHill x = house(house, tier, line, line, 9);
                    String of = house + " on TIER " + tier + ", LINE " + line;
                    Check.due("17 ahead of " + of, x.line(tier - 1, 0), line);
                    Check.due("17 behind " + of, x.line(tier, 0), kept(line + turn(house, tier)));
                    Check.due("17 at the end behind " + of, x.line(9, 0), kept(line + turn(house, tier)));
                    Check.due("18 behind " + of, x.left(0), 9 - slower(house));
                    Check.due("16 behind " + of, x.rests(0), Check.NONE);
                }
            }
        }
    }

    private static void tendingFromEveryLine() {
        for (int tend = 0; tend <= 2; tend++) {
            for (int line = 0; line <= 6; line++) {
                SaintHill x = Check.told("c9," + line + ",0,9," + tend + ",1;");
                int due = line;
                for (int tier = 0; tier <= 9; tier++) {
                    due = tier == 0 ? due : kept(due + tend - 1);
                    Check.due("17 TEND " + tend + " from " + line + ", TIER " + tier, x.line(tier, 0), due);
                }
            }
        }
    }

    private static void tendsIntoAHouseAtTheEdge() {
        SaintHill x = Check.told("c2,6,0,9,2,1;m1,6,0;");
        Check.due("16 it stays on LINE 6, and meets who stands there", x.rests(0), 0);
        Check.due("17 on LINE 6", x.line(1, 0), 6);
        x = Check.told("c2,0,0,9,0,1;m1,0,0;");
        Check.due("16 it stays on LINE 0, and meets who stands there", x.rests(0), 0);
        Check.due("17 on LINE 0", x.line(1, 0), 0);
        x = Check.told("c2,5,0,9,2,1;m1,6,0;m1,5,0;");
        Check.due("16 it tends to LINE 6 ahead of the house", x.rests(0), 0);
        x = Check.told("c2,1,0,9,0,1;m1,0,0;m1,1,0;");
        Check.due("16 it tends to LINE 0 ahead of the house", x.rests(0), 0);
    }

    /** "If SPEED is 0 or less then, it RESTS there, too"; "SPEED as it RESTS (0 at least)". */
    private static void everySpeedAtEveryHouse() {
        for (char house : "dpowu".toCharArray()) {
            for (int tier = 1; tier <= 9; tier += 4) {
                for (int speed = 1; speed <= 9; speed++) {
                    SaintHill x = house(house, tier, 3, 3, speed);
                    int left = speed - slower(house);
                    String of = house + " at SPEED " + speed + ", TIER " + tier;
                    Check.due("16 " + of, x.rests(0), left <= 0 ? 0 : Check.NONE);
                    Check.due("18 " + of, x.left(0), Math.max(0, left));
                    int behind = 3 + turn(house, tier);
                    Check.due("17 as it rests, " + of, x.line(tier, 0), behind);
                    if (tier < 9) {
                        Check.due("17 it comes no farther, " + of, x.line(tier + 1, 0), left <= 0 ? Check.NONE : behind);
                    }
                }
            }
        }
        for (int speed = 1; speed <= 9; speed++) {
            for (char house : "dm".toCharArray()) {
                SaintHill x = Check.told("c2,3,0," + speed + ",1,1;" + house + "1,3,0;");
                Check.due("16 at rest at " + house, x.rests(0), 0);
                Check.due("18 as fast as it came to " + house, x.left(0), speed);
                Check.due("17 where it came to " + house, x.line(1, 0), 3);
                Check.due("17 no farther than " + house, x.line(2, 0), Check.NONE);
            }
        }
    }

    /** Three post offices that are OPEN, one behind the other. */
    private static void speedOfSeveral() {
        for (int speed = 1; speed <= 9; speed++) {
            SaintHill x = Check.told("c3,3,0," + speed + ",1,1;p1,3,0;p2,3,0;p3,3,0;");
            Check.due("16 three at SPEED " + speed, x.rests(0), speed <= 3 ? speed - 1 : Check.NONE);
            Check.due("18 three at SPEED " + speed, x.left(0), Math.max(0, speed - 3));
            for (int house = 0; house < 3; house++) {
                x.door(house, 0);
            }
            x.build(1, 2, 2);
            int at = speed <= 2 ? 0 : speed <= 4 ? 1 : speed <= 6 ? 2 : Check.NONE;
            Check.due("16 three shut at SPEED " + speed, x.rests(0), at);
            Check.due("18 three shut at SPEED " + speed, x.left(0), Math.max(0, speed - 6));
        }
    }

    /** "(What stands where it is turned to on a TIER does nothing.)", a house that turns it to itself among them. */
    private static void turnedToDoesNothing() {
        SaintHill x = Check.told("c2,3,0,9,1,1;w1,3,0;m1,2,0;");
        Check.due("16 a wall turns it to a miser", x.rests(0), Check.NONE);
        Check.due("18 the miser does nothing", x.left(0), 8);
        x = Check.told("c2,3,0,9,1,1;u1,3,0;m1,4,0;");
        Check.due("16 a pump turns it to a miser", x.rests(0), Check.NONE);
        x = Check.told("c2,3,0,9,1,1;d1,3,0;m1,2,0;");
        x.door(0, 0);
        Check.due("16 a door turns it to a miser", x.rests(0), Check.NONE);
        x = Check.told("c2,3,0,9,1,1;p2,3,0;m2,4,0;");
        x.door(0, 0);
        Check.due("16 a post office turns it to a miser", x.rests(0), Check.NONE);
        x = Check.told("c2,0,0,9,1,1;w1,0,0;");
        Check.due("18 a wall on LINE 0 slows it once", x.left(0), 8);
        x = Check.told("c2,6,0,9,1,1;u1,6,0;");
        Check.due("18 a pump on LINE 6 slows it once", x.left(0), 8);
        x = Check.told("c2,3,0,9,1,1;w1,3,0;m1,2,0;m2,2,0;");
        Check.due("16 the miser on the next TIER has it", x.rests(0), 2);
        x = Check.told("c2,3,0,9,1,1;w1,3,0;u2,2,0;");
        Check.due("17 turned twice, a TIER each", x.line(2, 0), 3);
    }

    /** "Behind the last TIER it RESTS on the FLAT." */
    private static void lastTier() {
        for (int tiers = 2; tiers <= 9; tiers++) {
            SaintHill x = Check.told("c" + tiers + ",3,0,1,1,1;d" + tiers + ",3,0;");
            Check.due("16 at the last TIER of " + tiers, x.rests(0), 0);
            x.build(0, tiers - 1, 3);
            Check.due("16 at the last but one", x.rests(0), 0);
            Check.due("17 not on the last", x.line(tiers, 0), Check.NONE);
            x.build(0, tiers, 4);
            Check.due("16 on the FLAT behind TIER " + tiers, x.rests(0), Check.NONE);
            Check.due("17 on the last TIER", x.line(tiers, 0), 3);
            Check.due("18 on the FLAT", x.left(0), 1);
            Check.due("17 no TIER behind the last", x.line(tiers + 1, 0), Check.BAD);
            x = Check.told("c" + tiers + ",3,0,1,1,1;w" + tiers + ",3,0;");
            Check.due("16 at the end of its SPEED on the last TIER", x.rests(0), 0);
            Check.due("18 at the end of its SPEED", x.left(0), 0);
            x.speed(2);
            Check.due("16 on the FLAT with a SPEED of 1", x.rests(0), Check.NONE);
        }
    }

    private static void everyThatDividesNone() {
        for (int every = 1; every <= 9; every++) {
            for (int tiers = 2; tiers <= 9; tiers++) {
                SaintHill x = Check.told("c" + tiers + ",0,0,9,2," + every + ";");
                Check.due("17 EVERY " + every + " of " + tiers, x.line(tiers, 0), Math.min(6, tiers / every));
            }
        }
    }

    /** "the LINE that is left over of START and DRIFT times t by 7". */
    private static void lineOfEveryYear() {
        for (int start = 0; start <= 6; start++) {
            for (int drift = 0; drift <= 6; drift++) {
                SaintHill x = Check.told("c2," + start + "," + drift + ",9,1,1;");
                for (int t = 0; t <= 60; t++) {
                    Check.due("17 START " + start + ", DRIFT " + drift + ", in " + t, x.line(0, t), (start + drift * t) % 7);
                }
                for (int t = 0; t <= 48; t += 16) {
                    Check.due("36 START " + start + ", DRIFT " + drift + ", YEAR " + t, x.count(5), (start + drift * t) % 7);
                    x.years(16);
                }
            }
        }
    }

    /** "FULL: beyond YEAR 999". */
    private static void lastYear() {
        SaintHill x = Check.told("c2,6,6,9,1,1;m1,1,0;");
        for (int k = 0; k < 41; k++) {
            x.years(24);
        }
        for (int n = 16; n <= 24; n++) {
            Check.due("9 FULL from YEAR 984 by " + n, x.years(n), Check.FULL);
        }
        Check.due("9 YEAR 984", x.count(3), 984);
        Check.due("9 to YEAR 998: 997 leaves 3 of 5988", x.years(14), Check.NONE);
        Check.due("9 FULL from YEAR 998 by 2", x.years(2), Check.FULL);
        Check.due("9 to YEAR 999", x.years(1), Check.NONE);
        Check.due("9 FULL from YEAR 999 by 1", x.years(1), Check.FULL);
        Check.due("36 YEAR 999", x.count(3), 999);
        Check.due("36 6 and 6 times 999 by 7", x.count(5), 6000 % 7);
        Check.due("17 6 and 6 times 1059 by 7", x.line(0, 60), 6360 % 7);
        Check.due("16 in YEAR 999", x.rests(0), 0);
        Check.due("20 in the 60 YEARS from YEAR 999 on", x.often(0, 60), 9);
        Check.due("10 other ACTS go on", x.door(0, 0), 0);
        Check.due("13 undone", x.undo(), 23);
        Check.due("13 YEAR 998 again", x.undo(), 22);
        Check.due("9 FULL from YEAR 998 by 2, still", x.years(2), Check.FULL);
        Check.due("9 YEAR 999 again", x.years(1), Check.NONE);
        Check.feed(x, "c2,6,6,9,1,1;");
        x.hill();
        Check.due("9 a HILL anew", x.years(24), Check.NONE);
        Check.due("36 YEAR 24", x.count(3), 24);
    }

    /** One ACT of a sort, the k-th of a row of them. */
    private static void act(SaintHill x, int sort, int k) {
        switch (sort) {
            case 0:
                x.years(1);
                break;
            case 1:
                x.door(2, k % 2);
                break;
            case 2:
                x.build(1, 1 + k % 3, 5);
                break;
            default:
                x.speed(1 + k % 9);
                break;
        }
    }

    private static String seen(SaintHill x) {
        StringBuilder text = new StringBuilder();
        for (int what : new int[] {1, 2, 3, 4, 5, 8, 9}) {
            text.append(x.count(what)).append(' ');
        }
        for (int house = 0; house < x.count(2); house++) {
            text.append(x.house(house, 0)).append(x.house(house, 1)).append(x.house(house, 4)).append(' ');
        }
        return text.toString();
    }

    /** "24 at most are kept, of more the oldest is forgotten; each can be undone, the latest first". */
    private static void actsOfEachSort() {
        for (int sort = 0; sort <= 3; sort++) {
            for (int n : new int[] {0, 1, 2, 22, 23, 24, 25, 26, 48, 49}) {
                SaintHill x = Check.told("c3,2,1,4,1,1;d1,2,1;m3,5,0;w1,6,1;");
                String[] was = new String[n + 1];
                was[0] = seen(x);
                for (int k = 0; k < n; k++) {
                    act(x, sort, k);
                    Check.due("36 ACTS of sort " + sort, x.count(6), Math.min(24, k + 1));
                    // An object is good for 512 calls, so of long rows the last ones alone are looked at.
                    was[k + 1] = k + 1 >= n - 3 || k + 1 == n - 24 ? seen(x) : null;
                }
                int kept = Math.min(24, n);
                for (int k = 1; k <= kept; k++) {
                    Check.due("13 " + n + " ACTS of sort " + sort + ", undone " + k, x.undo(), kept - k);
                    if (was[n - k] != null) {
                        Check.holds("13 as it was ahead of ACT " + (n - k) + " of sort " + sort, was[n - k].equals(seen(x)));
                    }
                }
                Check.due("13 none is left of " + n, x.undo(), Check.STATE);
                Check.due("36 none is left of " + n, x.count(6), 0);
                Check.holds("13 what is forgotten stays, sort " + sort + " of " + n,
                        was[n - kept] != null && was[n - kept].equals(seen(x)));
            }
        }
    }

    private static void actsOfAllSorts() {
        for (int first = 0; first <= 3; first++) {
            SaintHill x = Check.told("c3,2,1,4,1,1;d1,2,1;m3,5,0;w1,6,1;");
            String[] was = new String[27];
            for (int k = 0; k < 26; k++) {
                was[k] = k < 5 ? seen(x) : null;
                act(x, (first + k) % 4, k / 4);
            }
            Check.due("36 24 of 26", x.count(6), 24);
            for (int k = 25; k >= 2; k--) {
                Check.due("13 undone " + k, x.undo(), k - 2);
                if (was[k] != null) {
                    Check.holds("13 as it was ahead of ACT " + k + ", first " + first, was[k].equals(seen(x)));
                }
            }
            Check.due("13 two are forgotten", x.undo(), Check.STATE);
            x.speed(9);
            Check.due("36 an ACT anew", x.count(6), 1);
            Check.due("13 undone", x.undo(), 0);
            Check.holds("13 as it was ahead of it", was[2].equals(seen(x)));
        }
    }

    /** "n YEARS (1 to 24), an ACT each". */
    private static void yearsAreAnActEach() {
        for (int n = 1; n <= 24; n++) {
            SaintHill x = Check.told("c2,2,1,4,1,1;d1,2,1;");
            x.speed(8);
            x.years(n);
            Check.due("36 ACTS behind " + n + " YEARS", x.count(6), Math.min(24, n + 1));
            for (int k = 1; k <= n; k++) {
                x.undo();
            }
            Check.due("36 YEAR 0", x.count(3), 0);
            Check.due("36 the SPEED is another yet", x.count(8), 8);
            Check.due("13 the SPEED, if it is not forgotten", x.undo(), n == 24 ? Check.STATE : 0);
            Check.due("36 the SPEED", x.count(8), n == 24 ? 8 : 4);
        }
    }

    private static void yearsUndone() {
        SaintHill x = Check.told("c2,2,1,4,1,1;d1,2,1;m2,3,0;");
        Check.due("9 in YEAR 0 at the door", x.years(1), 0);
        Check.due("9 in YEAR 1 at the miser", x.years(1), 1);
        Check.due("9 in YEAR 2 on the FLAT", x.years(1), Check.NONE);
        Check.due("13 YEAR 2", x.undo(), 2);
        Check.due("36 both GOT it yet", x.count(9), 2);
        Check.due("9 YEAR 2 anew", x.years(1), Check.NONE);
        x.undo();
        x.undo();
        Check.due("14 the miser has it not", x.house(1, 4), 0);
        Check.due("14 the door has it", x.house(0, 4), 1);
        x.build(1, 2, 6);
        Check.due("9 the miser is gone", x.years(1), Check.NONE);
        x.undo();
        Check.due("14 nobody has it less", x.count(9), 1);
        x.undo();
        x.undo();
        Check.due("36 nobody GOT it", x.count(9), 0);
        Check.due("36 YEAR 0", x.count(3), 0);
        Check.due("9 YEAR 0 anew", x.years(1), 0);
    }

    private static void forgottenAtOnce() {
        SaintHill x = Check.told("c2,2,1,4,1,1;d1,2,1;");
        x.years(24);
        x.image(0);
        Check.due("36 an image forgets none", x.count(6), 24);
        x.restore(0);
        Check.due("36 restored, none can be undone", x.count(6), 0);
        Check.due("13 restored", x.undo(), Check.STATE);
        Check.due("36 restored, the YEAR stays", x.count(3), 24);
        x.years(2);
        x.feed('x');
        x.hill();
        Check.due("36 a FAULT forgets none", x.count(6), 2);
        Check.due("13 behind a FAULT", x.undo(), 1);
        Check.feed(x, "c2,2,1,4,1,1;");
        x.hill();
        Check.due("36 a HILL forgets all", x.count(6), 0);
        Check.due("13 behind a HILL", x.undo(), Check.STATE);
    }

    /** "a HOUSE is shut, or OPEN again (of each kind ..)", "STATE: it is so". */
    private static void doorsOfEachKind() {
        SaintHill x = Check.told("c5,2,1,4,0,2;d3,1,0;p2,2,1;m5,5,1;w4,3,0;u2,4,1;d5,2,1;");
        int open = 63;
        for (int house = 0; house < 6; house++) {
            Check.due("10 is OPEN", x.door(house, 1), Check.STATE);
            open -= 1 << house;
            Check.due("10 shut", x.door(house, 0), open);
            Check.due("10 is shut", x.door(house, 0), Check.STATE);
            Check.due("14 is shut", x.house(house, 3), 0);
        }
        Check.due("36 all are shut", x.count(4), 0);
        for (int house = 5; house >= 0; house--) {
            open += 1 << house;
            Check.due("10 OPEN again", x.door(house, 1), open);
            Check.due("14 OPEN again", x.house(house, 3), 1);
        }
        Check.due("36 twelve ACTS, none by what was refused", x.count(6), 12);
    }

    private static void builtAtTheEdges() {
        SaintHill x = Check.told("c9,2,1,4,0,2;d1,0,0;m9,6,0;");
        Check.due("11 it stands there", x.build(0, 1, 0), Check.STATE);
        Check.due("11 another one stands there", x.build(0, 9, 6), Check.STATE);
        Check.due("11 to the last LINE of the first TIER", x.build(0, 1, 6), 10);
        Check.due("11 to the first LINE of the last TIER", x.build(1, 9, 0), 96);
        Check.due("11 to where the other one stood", x.build(0, 9, 6), 16);
        Check.due("11 to where the other one stood", x.build(1, 1, 0), 90);
        Check.due("15 the first cell", x.at(1, 0), 1);
        Check.due("15 the last cell", x.at(9, 6), 0);
        Check.due("15 nobody where it stood", x.at(9, 0), Check.NONE);
        Check.due("15 nobody where it stood", x.at(1, 6), Check.NONE);
        Check.due("36 ACTS", x.count(6), 4);
    }
}
