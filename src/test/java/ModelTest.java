import java.lang.reflect.Method;
import java.lang.reflect.Modifier;
import java.util.ArrayList;
import java.util.Arrays;
import java.util.Comparator;
import java.util.List;
import java.util.Random;

/** Runs of 512 drawn calls (the draws are the same each time) on the class and on the model. */
public final class ModelTest {
    private static final int RUNS = 400;
    private static final int CALLS = 512;
    private static final int[] ODD_NUMBERS = {-1, 7, 8, 9, 10, 11, 14, 20, 21, 29, 30, 60, 61, 99, 100, 101, 200,
        255, 256, 9999, 10000, 99999, 100000, 65535, 32768, -2, -128, Integer.MAX_VALUE, Integer.MIN_VALUE};
    private static final String[] PIECES = {"parcel", "letter", "crate", "clock", "bride", "socks", "registered",
        "on", "weighs", "waits", "held", "tide", "storm", ";", " ", "0", "5", "6", "20", "21", "99", "100", "999",
        "1000", "99999999999", "sea", "Crate", "on3", "!", "\u00e9", "007", "{", "`", "/", ":"};

    private final Random r;
    private final SeaParcels x = new SeaParcels();
    private final Model m = new Model();
    private final List<String> past = new ArrayList<>();

    private ModelTest(long seed) {
        r = new Random(seed);
    }

    private static List<Method> face() {
        List<Method> face = new ArrayList<>();
        for (Method one : SeaParcels.class.getDeclaredMethods()) {
            if (Modifier.isPublic(one.getModifiers())) {
                face.add(one);
            }
        }
        face.sort(Comparator.comparing(Method::getName));
        return face;
    }

    private boolean same(String name, int... args) throws ReflectiveOperationException {
        Class<?>[] types = new Class<?>[args.length];
        Arrays.fill(types, int.class);
        Object[] given = Arrays.stream(args).boxed().toArray();
        long got = ((Number) SeaParcels.class.getMethod(name, types).invoke(x, given)).longValue();
        long want = ((Number) Model.class.getMethod(name, types).invoke(m, given)).longValue();
        past.add(name + Arrays.toString(args) + " = " + want);
        if (got != want) {
            past.add("   answered " + got);
        }
        Runs.due("drawn run", past.get(past.size() - 1), got, want);
        return got == want;
    }

    private int smallNumber() {
        int sort = r.nextInt(20);
        if (sort == 0) {
            return ODD_NUMBERS[r.nextInt(ODD_NUMBERS.length)];
        }
        return sort < 12 ? r.nextInt(5) : r.nextInt(sort < 17 ? 9 : 22);
    }

    private String drawnText() {
        StringBuilder b = new StringBuilder();
        int items = 1 + r.nextInt(4);
        for (int i = 0; i < items; i++) {
            b.append(i > 0 ? ";" : "").append(r.nextInt(3) == 0 ? " " : "");
            int sort = r.nextInt(10);
            if (sort == 0) {
                b.append("tide ").append(r.nextInt(7)).append(' ').append(r.nextInt(22));
            } else if (sort == 1) {
                b.append("storm ").append(r.nextInt(11));
            } else {
                b.append(Model.WORDS.get(r.nextInt(7)));
                b.append(r.nextInt(2) == 0 ? " on " + r.nextInt(22) : "");
                b.append(r.nextInt(2) == 0 ? " weighs" + r.nextInt(101) : "");
                b.append(r.nextInt(3) == 0 ? " waits " + r.nextInt(r.nextBoolean() ? 20 : 1001) : "");
                b.append(r.nextInt(4) == 0 ? " held" : "");
            }
        }
        int marred = r.nextInt(3) == 0 ? 1 + r.nextInt(2) : 0;
        for (int i = 0; i < marred; i++) {
            int at = r.nextInt(b.length() + 1);
            if (r.nextBoolean()) {
                b.insert(at, PIECES[r.nextInt(PIECES.length)]);
            } else {
                b.setLength(at);
            }
        }
        return b.length() > 120 ? b.substring(0, 120) : b.toString();
    }

    private boolean sameText() throws ReflectiveOperationException {
        String text = drawnText();
        past.add("text: " + text);
        boolean same = r.nextInt(4) == 0 || same("wipe");
        for (int i = 0; i < text.length() && same; i++) {
            same = same("feed", text.charAt(i), 1);
        }
        return same && same("text");
    }

    /** A sheet that tells what will be, so that fits() and kinds() find something. */
    private boolean sameTold() throws ReflectiveOperationException {
        int s = r.nextInt(4);
        int parcel = r.nextInt(8);
        int n = 1 + r.nextInt(8);
        boolean same = same("sheet", s, 8, n);
        for (int i = 0; i < n && same && parcel < m.count(1); i++) {
            same = same("write", s, i, r.nextInt(3) == 0 ? -1 : m.ahead(parcel, 1, i + 1));
        }
        return same && same("fits", s, parcel) && same("kinds", s, parcel);
    }

    private boolean sameLines() throws ReflectiveOperationException {
        int s = r.nextInt(4);
        int n = r.nextInt(m.count(1) + 1);
        boolean same = same("sheet", s, 16, n + r.nextInt(2));
        for (int i = 0; i < n && same; i++) {
            same = same("write", s, i, m.of(i, 1));
        }
        return same && same("judge", s) && same("load", s);
    }

    private boolean sameCall(List<Method> face) throws ReflectiveOperationException {
        int sort = r.nextInt(24);
        if (sort == 0) {
            return sameText();
        }
        if (sort == 1) {
            return same("change", r.nextInt(8), r.nextInt(7), r.nextInt(4) == 0 ? r.nextInt(100) : smallNumber());
        }
        if (sort == 2) {
            return same("tide", r.nextInt(6), r.nextInt(21));
        }
        if (sort == 3) {
            return same("parcel", r.nextInt(7), r.nextInt(21));
        }
        if (sort == 4) {
            return same("change", r.nextInt(8), 4, 0);
        }
        if (sort == 5) {
            return same("go", 1 + r.nextInt(3));
        }
        if (sort == 6) {
            return same("set", 0, r.nextInt(3) == 0 ? 9999 - r.nextInt(4) : r.nextInt(6));
        }
        if (sort == 7) {
            return r.nextBoolean() ? sameTold() : sameLines();
        }
        Method one = face.get(r.nextInt(face.size()));
        int[] args = new int[one.getParameterCount()];
        for (int i = 0; i < args.length; i++) {
            args[i] = smallNumber();
        }
        return same(one.getName(), args);
    }

    private boolean run(List<Method> face) throws ReflectiveOperationException {
        for (int i = 0; i < CALLS; i++) {
            if (!sameCall(face)) {
                past.forEach(System.out::println);
                return false;
            }
        }
        return true;
    }

    public static void main(String[] args) throws ReflectiveOperationException {
        List<Method> face = face();
        for (long seed = 0; seed < RUNS; seed++) {
            if (!new ModelTest(seed).run(face)) {
                break;
            }
        }
        Runs.end();
    }
}
