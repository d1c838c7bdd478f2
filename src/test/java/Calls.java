import java.lang.reflect.InvocationTargetException;
import java.lang.reflect.Method;
import java.util.HashMap;
import java.util.Map;

/** Calls told as texts, so that tables of calls can be written down and told back. */
final class Calls {
    /** What an object is good for. */
    static final int MOST = 512;

    private static final Map<String, Method> FACE = new HashMap<>();

    static {
        for (Method m : SaintHill.class.getDeclaredMethods()) {
            if ((m.getModifiers() & java.lang.reflect.Modifier.PUBLIC) != 0) {
                FACE.put(m.getName(), m);
            }
        }
    }

    private Calls() { }

    /** One call, such as "door(0, 1)". */
    static int answer(SaintHill x, String call) {
        int open = call.indexOf('(');
        String inside = call.substring(open + 1, call.indexOf(')')).trim();
        String[] told = inside.isEmpty() ? new String[0] : inside.split(",");
        int[] arguments = new int[told.length];
        for (int i = 0; i < told.length; i++) {
            arguments[i] = Integer.parseInt(told[i].trim());
        }
        return answer(x, call.substring(0, open).trim(), arguments);
    }

    static int answer(SaintHill x, String name, int... arguments) {
        Object[] boxed = new Object[arguments.length];
        for (int i = 0; i < boxed.length; i++) {
            boxed[i] = arguments[i];
        }
        try {
            return (Integer) FACE.get(name).invoke(x, boxed);
        } catch (InvocationTargetException | IllegalAccessException e) {
            throw new IllegalStateException(told(name, arguments), e);
        }
    }

    static String told(String name, int... arguments) {
        StringBuilder text = new StringBuilder(name).append('(');
        for (int i = 0; i < arguments.length; i++) {
            text.append(i == 0 ? "" : ", ").append(arguments[i]);
        }
        return text.append(')').toString();
    }

    /** A new object behind these calls, told as "speed(3); door(0, 0)"; a text in quotes is fed, byte by byte. */
    static SaintHill behind(String... lists) {
        SaintHill x = new SaintHill();
        for (String list : lists) {
            if (list.startsWith("'")) {
                Check.feed(x, list.substring(1, list.length() - 1));
            } else {
                for (String call : list.split("; *")) {
                    answer(x, call);
                }
            }
        }
        return x;
    }

    static String name(int refusal) {
        int[] numbers = {Check.NONE, Check.BAD, Check.STATE, Check.FULL, Check.NULL, Check.PLACE, Check.KIND, Check.SIZE,
            Check.STORE};
        String[] names = {"NONE", "BAD", "STATE", "FULL", "NULL", "PLACE", "KIND", "SIZE", "STORE"};
        for (int i = 0; i < numbers.length; i++) {
            if (numbers[i] == refusal) {
                return names[i];
            }
        }
        return Integer.toString(refusal);
    }

    static int refusal(String name) {
        for (int number = Check.NONE; number >= Check.STORE; number--) {
            if (name(number).equals(name)) {
                return number;
            }
        }
        throw new IllegalStateException(name);
    }
}
