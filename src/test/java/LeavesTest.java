import java.util.ArrayList;
import java.util.List;

/**
 * "What is refused, or found, changes nothing but status()", and what is foretold or looked at changes nothing, either:
 * of two objects behind the same calls one is called once more, then both are asked for all that can be known of them.
 */
public final class LeavesTest {
    private static final int LEAST = Integer.MIN_VALUE, MOST = Integer.MAX_VALUE;

    /** A HILL in the middle of its years, an IMAGE of an earlier one, ROWS, bytes on the tape, a FAULT, a TRACE. */
    private static final String[] BUSY = {
        "'c4,1,3,7,2,3;m2,2,1;d4,0,0;'", "hill(); years(2); image(1)",
        "'c5,2,1,9,0,2;d3,1,0;p2,2,1;m5,5,1;w4,3,0;u2,4,1;d5,2,1;'", "hill(); years(9); speed(7); door(1, 0); "
        + "build(2, 1, 6); door(4, 0); years(3)",
        "'c2;'", "hill()", "'c3,2'",
        "row(0, 2, 4); set(0, 0, 5); set(0, 1, -1); set(0, 2, 1); row(1, 0, 3); row(2, 2, 6); row(3, 1, 0); ask(1, 0); "
        + "as(0, 4)",
    };

    private static final String[] EMPTY = {"row(0, 2, 4); set(0, 1, 7); as(0, 0)", "'c2,'"};

    private static final String[] REFUSED = {
        "row(8, 0, 1)", "row(-1, 0, 1)", "row(0, 3, 1)", "row(0, -1, 1)", "row(0, 0, 41)", "row(0, 0, -1)",
        "row(5, 0, -1)", "row(0, 0, " + LEAST + ")", "row(0, 2, " + MOST + ")",
        "set(8, 0, 1)", "set(-1, 0, 1)", "set(4, 0, 1)", "set(0, 4, 1)", "set(0, -1, 1)", "set(3, 0, 1)",
        "copy(8, 0, 0, 0, 1)", "copy(0, 0, -1, 0, 1)", "copy(4, 0, 0, 0, 1)", "copy(0, 0, 4, 0, 1)",
        "copy(0, 0, 1, 0, 1)", "copy(0, 1, 2, 0, 4)", "copy(0, 0, 2, 3, 4)", "copy(2, 0, 0, 1, 4)", "copy(0, -1, 2, 0, 2)",
        "copy(0, 0, 2, -1, 2)", "copy(0, 0, 2, 0, -1)", "copy(0, 1, 0, 0, " + MOST + ")", "copy(0, 5, 2, 0, 0)",
        "drop(8)", "drop(-1)", "drop(4)",
        "feed(-1)", "feed(256)", "feed(" + LEAST + ")", "feed(" + MOST + ")",
        "years(0)", "years(25)", "years(-1)", "years(" + LEAST + ")", "years(" + MOST + ")",
        "door(6, 0)", "door(-1, 0)", "door(0, 2)", "door(0, -1)", "door(0, 1)", "door(1, 0)",
        "build(6, 1, 1)", "build(-1, 1, 1)", "build(0, 0, 1)", "build(0, 6, 1)", "build(0, 1, 7)", "build(0, 1, -1)",
        "build(0, 3, 1)", "build(0, 1, 6)",
        "speed(0)", "speed(10)", "speed(-1)",
        "house(6, 0)", "house(0, 5)", "at(0, 0)", "at(6, 0)", "at(1, 7)",
        "rests(61)", "rests(-1)", "line(6, 0)", "line(0, 61)", "left(61)", "next(6)", "often(0, 0)", "often(0, 61)",
        "aim(6, 0, 0)", "aim(0, 61, 0)", "aim(0, 0, 2)", "shun(64, 0, 0)", "shun(0, 61, 0)", "shun(0, 0, 2)",
        "site(6, 1, 0)", "site(0, 21, 0)", "site(0, 1, 3)", "peace(2)", "peace(-1)",
        "rolls(8, 0, 1, 0)", "rolls(0, 0, 0, 0)", "rolls(0, 0, 17, 0)", "rolls(0, 0, 1, 4)", "rolls(4, 0, 1, 0)",
        "rolls(0, 4, 1, 0)", "rolls(0, 0, 5, 0)", "rolls(0, -1, 1, 0)",
        "sorts(6, 0, 0, 1)", "sorts(0, 8, 0, 1)", "sorts(0, 0, 0, 0)", "sorts(0, 0, 0, 17)", "sorts(0, 4, 0, 1)",
        "sorts(0, 0, 4, 1)", "sorts(0, 0, 0, 5)", "sorts(0, 0, -1, 1)",
        "play(6, 0, 0)", "play(0, 11, 0)", "play(0, 0, 2)", "drawn(61, 1, 0)", "drawn(0, 0, 0)", "drawn(0, 1000000, 0)",
        "drawn(0, 1, 2)", "image(2)", "image(-1)", "restore(2)", "restore(-1)", "restore(0)",
        "kind(6)", "as(6, 0)", "as(0, 6)", "as(0, 2)", "as(3, 5)", "ask(6, 0)", "ask(-1, 1)", "ask(0, 2)", "ask(0, -1)",
        "count(10)", "count(-1)",
    };

    private static final String[] FORETOLD_OR_LOOKED_AT = {
        "fault()", "house(0, 0)", "house(5, 4)", "at(1, 0)", "at(3, 1)", "rests(0)", "rests(60)", "line(0, 0)",
        "line(5, 60)", "left(0)", "left(60)", "next(0)", "next(1)", "next(5)", "often(0, 1)", "often(5, 60)",
        "aim(0, 0, 0)", "aim(1, 60, 1)", "aim(5, 3, 1)", "shun(0, 0, 0)", "shun(63, 60, 1)", "shun(5, 1, 0)",
        "site(0, 1, 0)", "site(4, 20, 1)", "site(5, 7, 2)", "sulks()", "peace(0)", "peace(1)",
        "rolls(0, 0, 4, 0)", "rolls(0, 1, 2, 1)", "rolls(0, 0, 1, 2)", "rolls(2, 0, 6, 3)", "sorts(0, 0, 0, 4)",
        "sorts(5, 2, 5, 1)", "play(0, 0, 0)", "play(5, 10, 1)", "play(1, 4, 0)", "drawn(0, 1, 0)", "drawn(60, 999999, 1)",
        "kind(0)", "as(0, 0)", "as(4, 4)", "trace(0)", "trace(16)", "trace(-1)", "count(0)", "count(9)", "status()",
        "copy(0, 0, 0, 0, 4)", "copy(2, 6, 0, 4, 0)",
    };

    private static final String[] STATE_WITHOUT_A_HILL = {
        "years(1)", "years(24)", "speed(1)", "undo()", "rests(0)", "line(0, 0)", "left(0)", "shun(0, 0, 0)", "sulks()",
        "peace(0)", "rolls(0, 0, 1, 0)", "rolls(4, 0, 1, 0)", "drawn(0, 1, 0)", "image(0)", "restore(0)", "restore(1)",
        "door(0, 0)", "build(0, 1, 0)", "sorts(0, 4, 0, 1)", "as(0, 1)", "ask(0, 0)",
    };

    public static void main(String[] args) {
        for (String call : REFUSED) {
            leaves(call, true, BUSY);
        }
        for (String call : FORETOLD_OR_LOOKED_AT) {
            leaves(call, false, BUSY);
        }
        for (String call : STATE_WITHOUT_A_HILL) {
            leaves(call, true, EMPTY);
        }
        fullTape();
        fullYears();
        noActs();
        Check.end();
    }

    private static void fullTape() {
        String bytes = "'c2,3,0,9,1,1;" + "d".repeat(87) + "'";
        leaves("feed(59)", true, bytes);
        leaves("feed(256)", true, bytes);
    }

    private static void fullYears() {
        StringBuilder years = new StringBuilder("hill()");
        for (int k = 0; k < 41; k++) {
            years.append("; years(24)");
        }
        for (int n = 16; n <= 24; n++) {
            leaves("years(" + n + ")", true, "'c2,3,1,9,1,1;d1,3,0;m2,4,1;'", years.toString());
        }
        leaves("years(1)", true, "'c2,3,1,9,1,1;d1,3,0;m2,4,1;'", years.append("; years(15)").toString());
    }

    private static void noActs() {
        leaves("undo()", true, "'c2,3,1,9,1,1;d1,3,0;m2,4,1;'", "hill()");
        leaves("undo()", true, "'c2,3,1,9,1,1;d1,3,0;m2,4,1;'", "hill(); years(3); door(0, 0); image(0); restore(0)");
        leaves("undo()", true, "'c2,3,1,9,1,1;d1,3,0;m2,4,1;'", "hill(); years(1); speed(2); undo(); undo()");
    }

    private static void leaves(String call, boolean refused, String... made) {
        SaintHill x = Calls.behind(made);
        SaintHill y = Calls.behind(made);
        int answer = Calls.answer(y, call);
        Check.holds(call + " is " + (refused ? "" : "not ") + "refused, not " + Calls.name(answer),
                (answer < Check.NONE && answer > Check.FAULTY) == refused);
        boolean found = answer <= Check.NULL && answer >= Check.STORE;
        boolean rowed = call.matches("(row|set|copy|drop|rolls|sorts|as)\\(.*");
        int due = found ? -1000010 - answer : rowed && !refused ? 0 : x.status();
        Check.due("37 status behind " + call, y.status(), due);
        List<String> asked = new ArrayList<>();
        List<Integer> left = known(x, asked);
        List<Integer> right = known(y, new ArrayList<>());
        for (int i = 0; i < left.size(); i++) {
            Check.due(call + " changes nothing: " + asked.get(i), right.get(i), left.get(i));
        }
    }

    /** All that can be known of an object but its status(); what is told changes it, so it is told last of all. */
    private static List<Integer> known(SaintHill x, List<String> asked) {
        List<Integer> answers = new ArrayList<>();
        ask(x, asked, answers, "fault()");
        askEach(x, asked, answers, "trace(#)", 0, 6);
        askHill(x, asked, answers);
        askEach(x, asked, answers, "house(#, 4)", 0, 5);
        askEach(x, asked, answers, "kind(#)", 0, 5);
        askEach(x, asked, answers, "line(5, #)", 0, 6);
        askEach(x, asked, answers, "drop(#)", 5, 7);
        for (int row = 0; row <= 3; row++) {
            ask(x, asked, answers, "copy(" + row + ", 0, 0, 0, 0)");
            askEach(x, asked, answers, "rolls(" + row + ", #, 1, 0)", 0, 6);
            ask(x, asked, answers, "drop(" + row + ")");
        }
        ask(x, asked, answers, "drop(4)");
        for (int k = 0; k <= 24; k++) {
            ask(x, asked, answers, "undo()");
            askEach(x, asked, answers, "count(#)", 3, 4);
            askEach(x, asked, answers, "count(#)", 8, 9);
        }
        askHill(x, asked, answers);
        for (int image = 0; image <= 1; image++) {
            ask(x, asked, answers, "restore(" + image + ")");
            askHill(x, asked, answers);
        }
        ask(x, asked, answers, "feed(120)");
        ask(x, asked, answers, "hill()");
        ask(x, asked, answers, "fault()");
        return answers;
    }

    private static void askHill(SaintHill x, List<String> asked, List<Integer> answers) {
        askEach(x, asked, answers, "count(#)", 0, 9);
        askEach(x, asked, answers, "house(#, 0)", 0, 5);
        askEach(x, asked, answers, "house(#, 1)", 0, 5);
        askEach(x, asked, answers, "rests(#)", 0, 6);
    }

    private static void askEach(SaintHill x, List<String> asked, List<Integer> answers, String call, int least, int most) {
        for (int k = least; k <= most; k++) {
            ask(x, asked, answers, call.replace("#", Integer.toString(k)));
        }
    }

    private static void ask(SaintHill x, List<String> asked, List<Integer> answers, String call) {
        asked.add(call);
        answers.add(Calls.answer(x, call));
    }
}
