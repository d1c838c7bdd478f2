/** Section 4 of the document, promises 32 to 36: THE TRACE empty and longest, KINDS, counts; and the 512th call. */
public final class AskEdgesTest {
    private static final String ALL = "d3,1,0;p2,2,1;m5,5,1;w4,3,0;u2,4,1;d5,2,1;";

    public static void main(String[] args) {
        sizesOnEveryTier();
        marksOfEveryNumber();
        marksByHowOften();
        tracesOfEveryAsk();
        shorterBehindLonger();
        refusedAsks();
        traceBeyondTheSixteenth();
        kindsOfEach();
        countsOfNoneAndAll();
        the512thCall();
        Check.end();
    }

    /** SIZE of each KIND on each TIER, as HOUSE 0 that never GOT it. */
    private static void sizesOnEveryTier() {
        for (int tier = 1; tier <= 9; tier++) {
            String[] sorts = {"d", "p", "m", "w", "u"};
            int[] sizes = {tier, -tier, tier - 1000, tier - 100, 2 * (tier - 100)};
            int[] marks = {0, 0, -1000, 100 - tier, 200 - 2 * tier};
            for (int k = 0; k < 5; k++) {
                SaintHill x = Check.told("c9,0,0,9,1,1;" + sorts[k] + tier + ",3,0;");
                Check.due("34 SIZE of " + sorts[k] + " on TIER " + tier, x.ask(0, 0), sizes[k]);
                Check.due("34 MARK of " + sorts[k] + " on TIER " + tier, x.ask(0, 1), marks[k]);
                x.build(0, 10 - tier == tier ? 1 : 10 - tier, 3);
                int now = x.house(0, 0);
                int[] built = {now, -now, now - 1000, now - 100, 2 * (now - 100)};
                Check.due("34 SIZE of " + sorts[k] + " built on TIER " + now, x.ask(0, 0), built[k]);
            }
        }
    }

    private static void marksOfEveryNumber() {
        String[] sorts = {"d", "p", "m", "w", "u"};
        for (int k = 0; k < 5; k++) {
            StringBuilder text = new StringBuilder("c2,6,0,9,1,1;");
            for (int house = 0; house < 6; house++) {
                text.append(sorts[k]).append("2,").append(house).append(",0;");
            }
            SaintHill x = Check.told(text.toString());
            for (int number = 0; number < 6; number++) {
                int[] marks = {number, 2 * number, number - 1000, number + 98, number + 196};
                int[] sizes = {2 + number, -2 - 2 * number, number - 998, -98, -196};
                Check.due("34 MARK of " + sorts[k] + " " + number, x.ask(number, 1), marks[k]);
                Check.due("34 SIZE of " + sorts[k] + " " + number, x.ask(number, 0), sizes[k]);
            }
        }
    }

    /** How often it GOT it counts with DOORS, POSTS and MISERS alone; an undone YEAR does not. */
    private static void marksByHowOften() {
        String[] sorts = {"d", "p", "m", "w", "u"};
        for (int k = 0; k < 5; k++) {
            SaintHill x = Check.told("c2,3,0,1,1,1;d2,0,0;" + sorts[k] + "1,3,0;");
            for (int times = 0; times <= 24; times++) {
                int[] marks = {1 + times, 2 * (1 + times), times - 999, 100, 199};
                Check.due("34 MARK of " + sorts[k] + ", " + times + " times", x.ask(1, 1), marks[k]);
                Check.due("9 it rests there", x.years(1), 1);
            }
            x.undo();
            int[] marks = {25, 50, -975, 100, 199};
            Check.due("34 MARK of " + sorts[k] + ", one undone", x.ask(1, 1), marks[k]);
        }
    }

    private static void tracesOfEveryAsk() {
        SaintHill x = Check.told("c5,2,1,9,0,2;" + ALL);
        int[][] sizes = {{11, 10, 21, 20}, {12, 11, 10, 24, 21, 20}, {11, 10, 22, 21, 20}, {13, 10}, {14, 13, 10}};
        int[][] marks = {{21, 20}, {24, 21, 20}, {22, 21, 20}, {23, 20, 13, 10}, {23, 20, 14, 13, 10}};
        for (int house = 0; house < 5; house++) {
            x.ask(house, 0);
            Check.trace("35 SIZE of " + house, x, sizes[house]);
            x.ask(house, 1);
            Check.trace("35 MARK of " + house, x, marks[house]);
        }
    }

    /** "THE TRACE is empty ahead of it." */
    private static void shorterBehindLonger() {
        SaintHill x = Check.told("c5,2,1,9,0,2;" + ALL);
        x.ask(1, 0);
        x.ask(3, 0);
        for (int i = 0; i <= 20; i++) {
            Check.due("35 a shorter one, " + i, x.trace(i), i == 0 ? 13 : i == 1 ? 10 : Check.NONE);
        }
        x.ask(3, 0);
        Check.trace("35 the same again", x, 13, 10);
    }

    private static void refusedAsks() {
        SaintHill x = Check.told("c5,2,1,9,0,2;" + ALL);
        Check.due("35 empty at first", x.trace(0), Check.NONE);
        x.ask(6, 0);
        Check.due("35 empty behind what is refused", x.trace(0), Check.NONE);
        x.ask(1, 0);
        int[][] wrong = {{6, 0}, {-1, 0}, {0, 2}, {0, -1}, {6, 2}, {Integer.MIN_VALUE, 0}, {0, Integer.MAX_VALUE}};
        for (int[] w : wrong) {
            Check.due("34 ask(" + w[0] + ", " + w[1] + ")", x.ask(w[0], w[1]), Check.BAD);
            Check.trace("35 what is refused changes nothing", x, 12, 11, 10, 24, 21, 20);
        }
        x.years(3);
        x.undo();
        x.image(0);
        x.restore(0);
        x.feed('x');
        x.hill();
        Check.trace("35 other calls leave it", x, 12, 11, 10, 24, 21, 20);
    }

    /** "(the first 16)": whatever i is, there is never one behind them. */
    private static void traceBeyondTheSixteenth() {
        SaintHill x = Check.told("c5,2,1,9,0,2;" + ALL);
        int[] beyond = {-1, -2, 6, 15, 16, 17, 100, Integer.MIN_VALUE, Integer.MAX_VALUE};
        for (int i : beyond) {
            Check.due("35 trace(" + i + ") of an empty one", x.trace(i), Check.NONE);
        }
        x.ask(1, 0);
        for (int i : beyond) {
            Check.due("35 trace(" + i + ") of the longest", x.trace(i), Check.NONE);
        }
        Check.due("35 the last of the longest", x.trace(5), 20);
    }

    private static void kindsOfEach() {
        SaintHill x = Check.told("c5,2,1,9,0,2;" + ALL);
        int[] kinds = {1, 2, 3, 4, 5, 1};
        String[] is = {"01", "012", "013", "04", "045", "01"};
        for (int house = 0; house < 6; house++) {
            Check.due("32 KIND of " + house, x.kind(house), kinds[house]);
            for (int kind = 0; kind <= 5; kind++) {
                boolean so = is[house].indexOf('0' + kind) >= 0;
                Check.due("33 " + house + " as " + kind, x.as(house, kind), so ? house : Check.KIND);
                Check.due("37 " + house + " as " + kind, x.status(), so ? 0 : 3);
            }
            Check.due("33 " + house + " as 6", x.as(house, 6), Check.BAD);
            Check.due("37 BAD does not count", x.status(), kinds[house] == 5 ? 0 : 3);
            Check.due("33 " + house + " as -1", x.as(house, -1), Check.BAD);
        }
    }

    private static void countsOfNoneAndAll() {
        SaintHill x = Check.told("c9,6,0,9,1,1;m1,6,0;" + "d2,0,0;d2,1,0;d2,2,0;d2,3,0;d2,4,0;");
        for (int row = 0; row <= 7; row++) {
            x.row(row, 0, 0);
        }
        for (int k = 0; k < 42; k++) {
            x.years(k < 41 ? 24 : 15);
        }
        for (int k = 0; k < 101; k++) {
            x.feed('c');
        }
        int[] due = {8, 9, 6, 999, 63, 6, 24, 100, 9, 999};
        for (int what = 0; what <= 9; what++) {
            Check.due("36 all: count(" + what + ")", x.count(what), due[what]);
        }
        Check.due("36 BAD 10", x.count(10), Check.BAD);
        Check.due("36 BAD -1", x.count(-1), Check.BAD);
        x = Check.told("c2,0,0,1,1,1;");
        int[] none = {0, 2, 0, 0, 0, 0, 0, 0, 1, 0};
        for (int what = 0; what <= 9; what++) {
            Check.due("36 none: count(" + what + ")", x.count(what), none[what]);
        }
    }

    /** "An object is used for at most 512 calls": the last one answers as the first. */
    private static void the512thCall() {
        String text = "c2,3,0,9,1,1;d1,3,0;";
        SaintHill x = Check.told(text);
        for (int call = text.length() + 2; call < Calls.MOST; call++) {
            Check.due("10 call " + call, x.door(0, call % 2), call % 2);
        }
        Check.due("the 512th call", x.door(0, 0), 0);
        x = Check.told(text);
        for (int call = text.length() + 2; call < Calls.MOST; call++) {
            x.years(1);
        }
        Check.due("the 512th call", x.years(1), 0);
        x = Check.told(text);
        for (int call = text.length() + 2; call < Calls.MOST; call++) {
            x.speed(1 + call % 9);
        }
        Check.due("the 512th call", x.undo(), 23);
    }
}
