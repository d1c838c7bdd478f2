/** What the tests share: counting wrong answers, and hills made from a text. */
final class Check {
    static final int NONE = -1000000, BAD = -1000001, STATE = -1000002, FULL = -1000003;
    static final int NULL = -1000011, PLACE = -1000012, KIND = -1000013, SIZE = -1000014, STORE = -1000015;
    static final int FAULTY = -1000100;

    private static int wrong = 0;

    private Check() { }

    static void due(String call, long got, long want) {
        if (got != want) {
            wrong++;
            System.out.println(call + " answered " + got + ", due is " + want);
        }
    }

    static void holds(String what, boolean truth) {
        if (!truth) {
            wrong++;
            System.out.println("does not hold: " + what);
        }
    }

    static void feed(SaintHill x, String text) {
        for (int i = 0; i < text.length(); i++) {
            x.feed(text.charAt(i));
        }
    }

    /** A new object whose hill is told by the text, which has no fault. */
    static SaintHill told(String text) {
        SaintHill x = new SaintHill();
        feed(x, text);
        int houses = x.hill();
        holds("a hill is told by " + text, houses >= 0);
        return x;
    }

    static void row(SaintHill x, int row, int... items) {
        x.row(row, 2, items.length);
        for (int i = 0; i < items.length; i++) {
            x.set(row, i, items[i]);
        }
    }

    static void trace(String of, SaintHill x, int... bodies) {
        for (int i = 0; i < bodies.length; i++) {
            due(of + " trace(" + i + ")", x.trace(i), bodies[i]);
        }
        due(of + " trace(" + bodies.length + ")", x.trace(bodies.length), NONE);
    }

    static int wrongSoFar() {
        return wrong;
    }

    static void end() {
        if (wrong != 0) {
            System.out.println(wrong + " answers are not as due");
            System.exit(1);
        }
    }
}
