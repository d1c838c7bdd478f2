/**
 * "Refusals are answers, the first of these that fits, but as told": where two or more fit, the one that is due; and
 * what each call answers while there is no HILL.
 */
public final class OrderTest {
    private static final int LEAST = Integer.MIN_VALUE, MOST = Integer.MAX_VALUE;
    private static final String HILL = "'c5,2,1,9,0,2;d3,1,0;p2,2,1;m5,5,1;w4,3,0;u2,4,1;d5,2,1;'";

    public static void main(String[] args) {
        rows();
        findingsOfCopy();
        tape();
        acts();
        guesses();
        images();
        kinds();
        stateAheadOfBad();
        badWithoutAHill();
        othersWithoutAHill();
        Check.end();
    }

    /** A row of a table: what is due, then calls that answer so. */
    private static void due(String promise, SaintHill x, String due, String... calls) {
        for (String call : calls) {
            int answer = Calls.answer(x, call);
            Check.holds(promise + " " + call + " is " + due + ", not " + Calls.name(answer),
                    answer == Calls.refusal(due));
        }
    }

    private static void rows() {
        SaintHill x = Calls.behind("row(0, 0, 3)");
        due("2 BAD ahead of SIZE", x, "BAD", "row(8, 0, -1)", "row(-1, 0, -1)", "row(0, 3, -1)", "row(0, -1, -1)",
                "row(8, 3, " + LEAST + ")");
        due("2 SIZE", x, "SIZE", "row(0, 0, -1)", "row(7, 2, " + LEAST + ")");
        due("3 BAD ahead of PLACE", x, "BAD", "set(8, -1, 0)", "set(-1, 40, 0)");
        due("3 NULL ahead of PLACE", x, "NULL", "set(1, -1, 0)", "set(1, 40, 0)", "set(7, 0, 0)");
        due("3 PLACE", x, "PLACE", "set(0, -1, 0)", "set(0, 3, 0)");
        due("5 BAD", x, "BAD", "drop(8)", "drop(-1)");
        due("5 NULL", x, "NULL", "drop(1)", "drop(7)");
    }

    private static void findingsOfCopy() {
        SaintHill x = Calls.behind("row(0, 0, 3); row(1, 1, 3); row(2, 0, 3)");
        due("4 BAD ahead of NULL", x, "BAD", "copy(8, 0, 3, 0, 1)", "copy(3, 0, 8, 0, 1)", "copy(-1, 0, 3, 0, 1)",
                "copy(3, 0, -1, 0, 1)");
        due("4 BAD ahead of PLACE", x, "BAD", "copy(0, -1, 8, 0, 1)", "copy(8, 0, 0, 4, -1)");
        due("4 NULL ahead of STORE and PLACE", x, "NULL", "copy(3, 0, 1, 0, 1)", "copy(1, 0, 3, 0, 1)",
                "copy(3, -1, 0, 0, 1)", "copy(0, 4, 3, 0, 1)", "copy(0, 0, 3, 0, -1)", "copy(3, 0, 3, 0, 0)");
        due("4 STORE ahead of PLACE", x, "STORE", "copy(0, -1, 1, 0, 1)", "copy(0, 0, 1, 4, 1)", "copy(1, 0, 0, 0, -1)",
                "copy(1, 0, 0, 0, 4)", "copy(0, 3, 1, 3, 0)", "copy(0, 0, 1, 0, " + MOST + ")");
        due("4 PLACE", x, "PLACE", "copy(0, -1, 2, 0, 1)", "copy(0, 0, 2, -1, 1)", "copy(0, 0, 2, 0, -1)",
                "copy(0, 1, 2, 0, 3)", "copy(0, 0, 2, 1, 3)", "copy(0, 4, 2, 0, 0)", "copy(0, 0, 2, 4, 0)",
                "copy(0, -1, 2, 0, 0)", "copy(0, 0, 2, -1, 0)", "copy(0, 1, 2, 0, " + MOST + ")",
                "copy(0, " + MOST + ", 2, 0, 1)", "copy(0, 0, 2, " + MOST + ", " + MOST + ")",
                "copy(0, " + LEAST + ", 2, 0, " + LEAST + ")", "copy(0, 3, 0, 3, " + LEAST + ")");
    }

    private static void tape() {
        SaintHill x = new SaintHill();
        for (int k = 0; k < 100; k++) {
            x.feed('c');
        }
        due("6 BAD ahead of FULL", x, "BAD", "feed(-1)", "feed(256)");
        due("6 FULL", x, "FULL", "feed(0)", "feed(255)");
    }

    private static void acts() {
        SaintHill x = Calls.behind(HILL, "hill()");
        for (int k = 0; k < 41; k++) {
            x.years(24);
        }
        x.years(15);
        due("9 BAD ahead of FULL", x, "BAD", "years(0)", "years(25)", "years(-1)", "years(" + MOST + ")");
        due("9 FULL", x, "FULL", "years(1)", "years(24)");
        due("10 BAD ahead of STATE", x, "BAD", "door(6, 1)", "door(-1, 1)");
        due("10 STATE", x, "STATE", "door(0, 1)", "door(5, 1)");
        due("11 BAD ahead of STATE", x, "BAD", "build(6, 3, 1)", "build(-1, 3, 1)");
        due("11 STATE", x, "STATE", "build(0, 3, 1)", "build(1, 3, 1)", "build(5, 2, 4)");
    }

    private static void guesses() {
        SaintHill x = Calls.behind("row(0, 0, 3)");
        due("26 STATE ahead of NULL", x, "STATE", "rolls(1, 0, 1, 0)");
        due("26 STATE ahead of PLACE", x, "STATE", "rolls(0, 3, 1, 0)");
        due("27 no HOUSE ahead of NULL", x, "BAD", "sorts(0, 1, 0, 1)");
        x = Calls.behind("row(0, 0, 3)", HILL, "hill()");
        due("26 BAD ahead of NULL", x, "BAD", "rolls(1, 0, 0, 0)", "rolls(1, 0, 17, 0)", "rolls(1, 0, 1, 4)",
                "rolls(1, 0, 1, -1)", "rolls(8, 0, 1, 0)");
        due("26 BAD ahead of PLACE", x, "BAD", "rolls(0, 3, 0, 0)", "rolls(0, -1, 17, 0)", "rolls(0, 3, 1, 4)");
        due("26 NULL ahead of PLACE", x, "NULL", "rolls(1, -1, 1, 0)", "rolls(1, 40, 16, 3)");
        due("26 PLACE", x, "PLACE", "rolls(0, 3, 1, 0)", "rolls(0, 0, 4, 0)", "rolls(0, -1, 1, 0)",
                "rolls(0, " + MOST + ", 16, 0)", "rolls(0, " + LEAST + ", 16, 0)");
        due("27 BAD ahead of NULL", x, "BAD", "sorts(6, 1, 0, 1)", "sorts(0, 1, 0, 0)", "sorts(0, 1, 0, 17)",
                "sorts(0, 8, 0, 1)");
        due("27 BAD ahead of PLACE", x, "BAD", "sorts(6, 0, 3, 1)", "sorts(0, 0, 3, 0)", "sorts(0, 0, -1, 17)");
        due("27 NULL ahead of PLACE", x, "NULL", "sorts(0, 1, -1, 1)", "sorts(5, 7, 40, 16)");
        due("27 PLACE", x, "PLACE", "sorts(0, 0, 3, 1)", "sorts(0, 0, 0, 4)", "sorts(0, 0, -1, 1)",
                "sorts(0, 0, " + MOST + ", 16)", "sorts(0, 0, " + LEAST + ", 16)");
    }

    private static void images() {
        SaintHill x = new SaintHill();
        due("30 BAD ahead of STATE", x, "BAD", "image(2)", "image(-1)");
        due("30 STATE", x, "STATE", "image(0)", "image(1)");
        due("31 BAD ahead of STATE", x, "BAD", "restore(2)", "restore(-1)");
        due("31 STATE", x, "STATE", "restore(0)", "restore(1)");
        x = Calls.behind(HILL, "hill()");
        due("31 STATE with a HILL, too", x, "STATE", "restore(0)", "restore(1)");
        x.image(1);
        due("31 STATE: the other one was kept", x, "STATE", "restore(0)");
    }

    private static void kinds() {
        SaintHill x = Calls.behind(HILL, "hill()");
        due("33 BAD ahead of KIND", x, "BAD", "as(6, 5)", "as(-1, 5)", "as(0, 6)", "as(0, -1)");
        due("33 KIND", x, "KIND", "as(0, 2)", "as(0, 3)", "as(0, 4)", "as(0, 5)", "as(3, 5)", "as(4, 1)");
    }

    /** The promises that tell STATE ahead of BAD; each number right, then each wrong. */
    private static void stateAheadOfBad() {
        SaintHill x = Calls.behind("row(0, 0, 20)");
        due("9", x, "STATE", "years(1)", "years(24)", "years(0)", "years(25)");
        due("12", x, "STATE", "speed(1)", "speed(9)", "speed(0)", "speed(10)");
        due("13", x, "STATE", "undo()");
        due("16", x, "STATE", "rests(0)", "rests(60)", "rests(-1)", "rests(61)");
        due("17", x, "STATE", "line(0, 0)", "line(1, 60)", "line(-1, 0)", "line(10, 0)", "line(0, -1)", "line(0, 61)");
        due("18", x, "STATE", "left(0)", "left(60)", "left(-1)", "left(61)");
        due("22", x, "STATE", "shun(0, 0, 0)", "shun(-1, 0, 0)", "shun(64, 0, 0)", "shun(0, 61, 0)", "shun(0, 0, 2)");
        due("24", x, "STATE", "sulks()");
        due("25", x, "STATE", "peace(0)", "peace(1)", "peace(-1)", "peace(2)");
        due("26", x, "STATE", "rolls(0, 0, 1, 0)", "rolls(8, 0, 1, 0)", "rolls(0, 0, 0, 0)", "rolls(0, 0, 17, 0)",
                "rolls(0, 0, 1, 4)");
        due("29", x, "STATE", "drawn(0, 1, 0)", "drawn(-1, 1, 0)", "drawn(61, 1, 0)", "drawn(0, 0, 0)",
                "drawn(0, 1000000, 0)", "drawn(0, 1, 2)");
    }

    /** There is no such HOUSE, no such TIER. */
    private static void badWithoutAHill() {
        SaintHill x = Calls.behind("row(0, 0, 20)");
        due("10", x, "BAD", "door(0, 0)", "door(0, 1)", "door(-1, 0)");
        due("11", x, "BAD", "build(0, 1, 0)", "build(0, 0, 0)");
        due("14", x, "BAD", "house(0, 0)", "house(0, 4)", "house(-1, 0)");
        due("15", x, "BAD", "at(1, 0)", "at(0, 0)");
        due("19", x, "BAD", "next(0)", "next(-1)");
        due("20", x, "BAD", "often(0, 1)", "often(-1, 1)");
        due("21", x, "BAD", "aim(0, 0, 0)", "aim(-1, 0, 0)");
        due("23", x, "BAD", "site(0, 1, 0)", "site(-1, 1, 0)");
        due("27", x, "BAD", "sorts(0, 0, 0, 1)", "sorts(-1, 0, 0, 1)");
        due("28", x, "BAD", "play(0, 0, 0)", "play(0, 10, 1)", "play(-1, 0, 0)");
        due("32", x, "BAD", "kind(0)", "kind(-1)");
        due("33", x, "BAD", "as(0, 0)", "as(-1, 0)");
        due("34", x, "BAD", "ask(0, 0)", "ask(0, 1)", "ask(-1, 0)");
        due("36", x, "BAD", "count(10)", "count(-1)");
    }

    private static void othersWithoutAHill() {
        SaintHill x = new SaintHill();
        for (int what = 0; what <= 9; what++) {
            Check.due("36 count without a HILL", x.count(what), 0);
        }
        Check.due("35 trace without a HILL", x.trace(0), Check.NONE);
        Check.due("8 fault without a HILL", x.fault(), 0);
        Check.due("37 status without a HILL", x.status(), 0);
    }
}
