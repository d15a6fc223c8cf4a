import java.lang.reflect.Method;
import java.util.ArrayList;
import java.util.HashMap;
import java.util.List;
import java.util.Map;

/**
 * Runs of calls told as rows: "tide(0, 20) = 0", "tide(6, 0) = BEYOND", or tape "parcel on 3" (which
 * feeds these bytes). Prints every answer that is not the one that is due.
 */
final class Runs {
    static final String[] FINDINGS = {"BEYOND", "FULL", "KIND", "NONE", "STATE", "MISSING", "SIZE"};
    static final long LOW = -1000001L;

    private static final Map<String, Method> CALLS = new HashMap<>();
    private static int right = 0;
    private static int wrong = 0;

    static {
        for (Method m : SeaParcels.class.getDeclaredMethods()) {
            if (java.lang.reflect.Modifier.isPublic(m.getModifiers())) {
                CALLS.put(m.getName(), m);
            }
        }
    }

    private Runs() {
    }

    static void due(String title, String what, long got, long want) {
        if (got == want) {
            right++;
        } else {
            wrong++;
            System.out.println(title + ": " + what + " answered " + told(got) + ", due is " + told(want));
        }
    }

    static void due(String title, String what, String got, String want) {
        if (got.equals(want)) {
            right++;
        } else {
            wrong++;
            System.out.println(title + ": " + what + " is " + got + ", due is " + want);
        }
    }

    /** A run on a new object, which it hands back for more. */
    static SeaParcels run(String title, String... rows) {
        SeaParcels x = new SeaParcels();
        more(title, x, rows);
        return x;
    }

    static void more(String title, SeaParcels x, String... rows) {
        for (String row : rows) {
            if (row.startsWith("tape ")) {
                feedAll(x, row.substring(6, row.length() - 1));
                continue;
            }
            int cut = row.lastIndexOf('=');
            String call = row.substring(0, cut).trim();
            due(title, call, answer(x, call), number(row.substring(cut + 1).trim()));
        }
    }

    /** The calls of the rows alone: what they answer isn't looked at. */
    static SeaParcels silently(List<String> rows) {
        SeaParcels x = new SeaParcels();
        for (String row : rows) {
            if (row.startsWith("tape ")) {
                feedAll(x, row.substring(6, row.length() - 1));
            } else {
                int cut = row.lastIndexOf('=');
                answer(x, cut < 0 ? row : row.substring(0, cut).trim());
            }
        }
        return x;
    }

    static void feedAll(SeaParcels x, String text) {
        for (int i = 0; i < text.length(); i++) {
            due("tape " + text, "feed", x.feed(text.charAt(i), 1) > 0 ? 1 : 0, 1);
        }
    }

    static long answer(SeaParcels x, String call) {
        int open = call.indexOf('(');
        String inside = call.substring(open + 1, call.lastIndexOf(')')).trim();
        List<Object> args = new ArrayList<>();
        if (!inside.isEmpty()) {
            for (String one : inside.split(",")) {
                args.add((int) number(one.trim()));
            }
        }
        Method m = CALLS.get(call.substring(0, open));
        try {
            return ((Number) m.invoke(x, args.toArray())).longValue();
        } catch (ReflectiveOperationException e) {
            throw new IllegalStateException(call, e);
        }
    }

    private static long number(String told) {
        for (int i = 0; i < FINDINGS.length; i++) {
            if (FINDINGS[i].equals(told)) {
                return LOW - i;
            }
        }
        if (told.equals("MIN")) {
            return Integer.MIN_VALUE;
        }
        if (told.equals("MAX")) {
            return Integer.MAX_VALUE;
        }
        return told.startsWith("0b") ? Long.parseLong(told.substring(2), 2) : Long.parseLong(told);
    }

    private static String told(long answer) {
        long i = LOW - answer;
        return i >= 0 && i < FINDINGS.length ? FINDINGS[(int) i] : Long.toString(answer);
    }

    /** Ends the test: exit code 1 if an answer was not the one that is due. */
    static void end() {
        System.out.println(right + " answers as due, " + wrong + " not");
        if (wrong != 0 || right == 0) {
            System.exit(1);
        }
    }
}
