import java.util.regex.Matcher;
import java.util.regex.Pattern;

/**
 * Each number of each call by itself, the others being right: every one that is told is taken, and the first beside
 * them on each side, and the least and the greatest of all, are not.
 *
 * A row of a table reads "17 line(0..5, 0..60)": the promise, the call, and of each number which are taken. What is not
 * taken is BAD, unless a name (or one for too small and one for too large) stands behind.
 */
public final class BoundsTest {
    private static final String SIX = "'c5,2,1,9,0,2;d3,1,0;p2,2,1;m5,5,1;w4,3,0;u2,4,1;d5,2,1;'";
    private static final String ROWS = "row(0, 2, 40); row(1, 2, 40); row(2, 2, 40); row(3, 2, 40); row(4, 2, 40); "
            + "row(5, 2, 40); row(6, 2, 40); row(7, 2, 40)";

    private static final String[] ON_A_HILL_OF_SIX = {
        "2 row(0..7, 0..2, 0..40 SIZE/BAD)",
        "3 set(0..7, 0..39 PLACE, 5)",
        "4 copy(0..7, 0..40 PLACE, 0..7, 0..40 PLACE, 0..40 PLACE)",
        "4 copy(0, 0..39 PLACE, 1, 0..39 PLACE, 1)",
        "4 copy(0, 0..1 PLACE, 0, 0..1 PLACE, 39)",
        "4 copy(0, 40, 1, 0, 0..0 PLACE)",
        "4 copy(0, 0, 1, 40, 0..0 PLACE)",
        "4 copy(0, 30, 1, 0, 0..10 PLACE)",
        "4 copy(0, 0, 1, 30, 0..10 PLACE)",
        "5 drop(0..7)",
        "6 feed(0..255)",
        "9 years(1..24)",
        "10 door(0..5, 0..1)",
        "11 build(0..5, 1..5, 0..6)",
        "12 speed(1..9)",
        "14 house(0..5, 0..4)",
        "15 at(1..5, 0..6)",
        "16 rests(0..60)",
        "17 line(0..5, 0..60)",
        "18 left(0..60)",
        "19 next(0..5)",
        "20 often(0..5, 1..60)",
        "21 aim(0..5, 0..60, 0..1)",
        "22 shun(0..63, 0..60, 0..1)",
        "23 site(0..5, 1..20, 0..2)",
        "25 peace(0..1)",
        "26 rolls(0..7, 0..39 PLACE, 1..16, 0..3)",
        "26 rolls(0, 0..24 PLACE, 16, 0)",
        "27 sorts(0..5, 0..7, 0..39 PLACE, 1..16)",
        "27 sorts(0, 0, 0..24 PLACE, 16)",
        "28 play(0..5, 0..10, 0..1)",
        "29 drawn(0..60, 1..999999, 0..1)",
        "30 image(0..1)",
        "31 restore(0..1)",
        "32 kind(0..5)",
        "33 as(0..5, 0..5)",
        "34 ask(0..5, 0..1)",
        "35 trace(0..3 NONE)",
        "36 count(0..9)",
    };

    private static final String[] OF_A_SINGLE_HOUSE = {
        "10 door(0..0, 0..1)", "14 house(0..0, 0..4)", "19 next(0..0)", "20 often(0..0, 1..60)",
        "21 aim(0..0, 0..60, 0..1)", "22 shun(0..1, 0..60, 0..1)", "23 site(0..0, 1..20, 0..2)",
        "27 sorts(0..0, 0..7, 0..39 PLACE, 1..16)", "28 play(0..0, 0..10, 0..1)", "32 kind(0..0)", "33 as(0..0, 0..5)",
        "34 ask(0..0, 0..1)",
    };

    private static final Pattern TOLD = Pattern.compile("(-?\\d+)(?:\\.\\.(\\d+))?(?: ([A-Z]+)(?:/([A-Z]+))?)?");

    public static void main(String[] args) {
        for (String row : ON_A_HILL_OF_SIX) {
            eachNumber(row, ROWS, SIX, "hill(); image(0); image(1); ask(0, 0)");
        }
        for (String row : OF_A_SINGLE_HOUSE) {
            eachNumber(row, ROWS, "'c2,3,1,9,1,1;d1,3,0;'", "hill()");
        }
        for (int tiers = 2; tiers <= 9; tiers++) {
            String text = "'c" + tiers + ",3,1,9,1,1;d1,3,0;'";
            eachNumber("11 build(0, 1.." + tiers + ", 0..6)", text, "hill()");
            eachNumber("15 at(1.." + tiers + ", 0..6)", text, "hill()");
            eachNumber("17 line(0.." + tiers + ", 0..60)", text, "hill()");
        }
        for (int size = 0; size <= 40; size += 8) {
            rowsOf(size);
        }
        withoutHouses();
        Check.end();
    }

    /** The places of a ROW end with its ITEMS. */
    private static void rowsOf(int size) {
        String made = "row(0, 0, " + size + "); row(1, 0, 40)";
        if (size > 0) {
            eachNumber("3 set(0, 0.." + (size - 1) + " PLACE, 5)", made);
            eachNumber("26 rolls(0, 0.." + (size - 1) + " PLACE, 1, 0)", made, SIX, "hill()");
            eachNumber("27 sorts(0, 0, 0.." + (size - 1) + " PLACE, 1)", made, SIX, "hill()");
        }
        eachNumber("4 copy(0, 0.." + size + " PLACE, 1, 0, 0)", made);
        eachNumber("4 copy(1, 0, 0, 0.." + size + " PLACE, 0)", made);
        eachNumber("4 copy(0, 0, 1, 0, 0.." + size + " PLACE)", made);
        eachNumber("4 copy(1, 0, 0, 0, 0.." + size + " PLACE)", made);
    }

    /** There is no such HOUSE, whichever is told. */
    private static void withoutHouses() {
        String[] calls = {"10 door(#, 0)", "11 build(#, 1, 1)", "14 house(#, 0)", "19 next(#)", "20 often(#, 1)",
            "21 aim(#, 0, 0)", "23 site(#, 1, 0)", "27 sorts(#, 0, 0, 1)", "28 play(#, 0, 0)", "32 kind(#)", "33 as(#, 0)",
            "34 ask(#, 0)"};
        for (String call : calls) {
            for (int house : new int[] {-1, 0, 1, 5, 6, Integer.MIN_VALUE, Integer.MAX_VALUE}) {
                String told = call.substring(3).replace("#", Integer.toString(house));
                SaintHill x = Calls.behind(ROWS, "'c2,3,1,9,1,1;'", "hill()");
                Check.due(call + " without houses", Calls.answer(x, told), Check.BAD);
            }
        }
        eachNumber("22 shun(0..0, 0..60, 0..1)", "'c2,3,1,9,1,1;'", "hill()");
    }

    private static void eachNumber(String row, String... made) {
        String call = row.substring(row.indexOf(' ') + 1);
        String name = call.substring(0, call.indexOf('('));
        String[] told = call.substring(call.indexOf('(') + 1, call.indexOf(')')).split(", ");
        int[] right = new int[told.length];
        for (int i = 0; i < told.length; i++) {
            right[i] = number(told[i], 1);
        }
        for (int i = 0; i < told.length; i++) {
            if (told[i].contains("..")) {
                oneNumber(row, name, right, i, told[i], made);
            }
        }
    }

    private static Matcher parts(String told) {
        Matcher m = TOLD.matcher(told);
        if (!m.matches()) {
            throw new IllegalStateException(told);
        }
        return m;
    }

    private static int number(String told, int group) {
        return Integer.parseInt(parts(told).group(group));
    }

    private static void oneNumber(String row, String name, int[] right, int which, String told, String... made) {
        Matcher m = parts(told);
        int least = number(told, 1);
        int most = number(told, 2);
        String small = m.group(3) == null ? "BAD" : m.group(3);
        String large = m.group(4) == null ? small : m.group(4);
        int[] call = right.clone();
        // Of long runs of numbers the ends are looked at, and some between.
        int step = Math.max(1, (most - least) / 300);
        for (int n = least; n <= most; n = n + step > most && n < most ? most : n + step) {
            call[which] = n;
            int answer = Calls.answer(Calls.behind(made), name, call);
            Check.holds(row + ": " + Calls.told(name, call) + " is taken, not " + Calls.name(answer),
                    answer != Calls.refusal(small) && answer != Calls.refusal(large));
        }
        for (int n : new int[] {least - 1, Integer.MIN_VALUE}) {
            call[which] = n;
            Check.due(row + ": " + Calls.told(name, call), Calls.answer(Calls.behind(made), name, call),
                    Calls.refusal(small));
        }
        for (int n : new int[] {most + 1, Integer.MAX_VALUE}) {
            call[which] = n;
            Check.due(row + ": " + Calls.told(name, call), Calls.answer(Calls.behind(made), name, call),
                    Calls.refusal(large));
        }
    }
}
