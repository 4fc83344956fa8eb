import java.lang.reflect.InvocationTargetException;
import java.lang.reflect.Method;
import java.lang.reflect.Modifier;
import java.util.ArrayList;
import java.util.Arrays;
import java.util.Comparator;
import java.util.List;
import java.util.Random;

/** Long runs of calls, made by a fixed seed, on the class and on the Model: all answers are alike. */
public final class RandomRunsTest {
    private static final int RUNS = 150, CALLS = 512;
    private static final String[] NAMES = {"row", "hot", "trap", "cap", "dark", "drain", "smear", "gain", "phases", "clock"};
    private static final Check CHECK = new Check("RandomRunsTest");

    public static void main(String[] args) throws Exception {
        List<Method> face = new ArrayList<>();
        for (Method m : BucketSheet.class.getDeclaredMethods()) {
            if (Modifier.isPublic(m.getModifiers())) {
                face.add(m);
            }
        }
        face.sort(Comparator.comparing(Method::getName));
        for (int seed = 0; seed < RUNS; seed++) {
            run(new Random(seed), seed, face);
        }
        CHECK.end();
    }

    private static void run(Random random, int seed, List<Method> face) throws Exception {
        BucketSheet x = new BucketSheet();
        Model model = new Model();
        boolean tooDear = seed % 3 != 0;
        for (int i = 0; i < CALLS; i++) {
            if (i % 60 == 0) {
                String text = text(random);
                Check.feed(x, text);
                feed(model, text);
                same(seed + " text of '" + text + "'", x, model, BucketSheet.class.getMethod("text"), new Object[0]);
                continue;
            }
            Method m = face.get(random.nextInt(face.size()));
            if (m.getName().equals("text") || tooDear && m.getName().equals("rounds")) {
                m = BucketSheet.class.getMethod(random.nextInt(3) == 0 ? "down" : "read");
            }
            same(seed + "/" + i, x, model, m, arguments(random, m));
        }
    }

    private static void same(String where, BucketSheet x, Model model, Method m, Object[] with) throws Exception {
        Method other = Model.class.getDeclaredMethod(m.getName(), m.getParameterTypes());
        long want = ((Number) other.invoke(model, with)).longValue();
        try {
            long got = ((Number) m.invoke(x, with)).longValue();
            CHECK.due(where + " " + m.getName() + Arrays.toString(with), got, want);
        } catch (InvocationTargetException e) {
            System.out.println(where + " threw " + e.getCause());
            CHECK.due(where + " " + m.getName() + Arrays.toString(with), Long.MIN_VALUE, want);
        }
    }

    private static void feed(Model model, String text) {
        for (long v : Check.eights(text)) {
            model.feed(v);
        }
        model.end(text.length());
    }

    private static Object[] arguments(Random random, Method m) {
        Class<?>[] types = m.getParameterTypes();
        Object[] with = new Object[types.length];
        for (int i = 0; i < types.length; i++) {
            if (types[i] == long.class) {
                with[i] = random.nextLong();
            } else {
                with[i] = number(random, m.getName(), i);
            }
        }
        return with;
    }

    /** Most numbers are such as the call wants; some are at its edges, some far off. */
    private static int number(Random random, String call, int i) {
        int far = random.nextInt(60);
        if (far == 0) {
            int[] off = {Integer.MIN_VALUE, Integer.MAX_VALUE, -1, 48, 1000, 10000, 41, 21};
            return off[random.nextInt(off.length)];
        }
        String one = call + i;
        switch (one) {
            case "well0": case "light0": case "smear0": case "full0": case "mended0": return random.nextInt(50) - 1;
            case "light1": return random.nextInt(random.nextBoolean() ? 6 : 102) - 1;
            case "expose0": return random.nextInt(random.nextInt(4) == 0 ? 1001 : 6);
            case "hots0": return random.nextInt(40);
            case "hots1": return random.nextInt(random.nextBoolean() ? 100 : 10001);
            case "enough0": return random.nextInt(random.nextBoolean() ? 30 : 1001);
            case "end0": return random.nextInt(10) == 0 ? 0 : random.nextInt(410) - 1;
            case "word0": case "goes0": case "goes1": case "rounds0": return random.nextInt(random.nextBoolean() ? 9 : 17) - (random.nextInt(9) == 0 ? 1 : 0);
            case "words0": case "rounds1": return random.nextInt(14);
            case "rounds2": return random.nextInt(9) - 4;
            case "fewest0": return random.nextInt(5) - 2;
            case "keep0": case "back0": return random.nextInt(2);
            case "sheet0": case "lay0": case "reads0": return random.nextInt(2);
            case "sheet1": case "reads1": return random.nextInt(2);
            case "sheet2": return random.nextInt(43) - 1;
            case "lay1": return random.nextInt(42) - 1;
            case "lay2": return random.nextInt(4) == 0 ? random.nextInt() : random.nextInt(49);
            case "reads2": return random.nextInt(42) - 1;
            case "reads3": return random.nextInt(random.nextBoolean() ? 4 : 22);
            default: return random.nextInt(9) - (random.nextInt(9) == 0 ? 1 : 0);
        }
    }

    /** A text that is mostly right; a third has something changed in it. */
    private static String text(Random random) {
        StringBuilder text = new StringBuilder();
        int lines = random.nextInt(16);
        boolean[] had = new boolean[NAMES.length];
        for (int i = 0; i < lines && text.length() < 330; i++) {
            int kind = random.nextInt(NAMES.length);
            if (kind > 2 && had[kind] && random.nextInt(20) > 0) {
                continue;
            }
            had[kind] = true;
            text.append(NAMES[kind]).append(random.nextInt(4) == 0 ? "" : " ");
            addNumbers(random, kind, text);
            text.append(random.nextInt(5) == 0 ? " ; " : ";");
        }
        if (random.nextInt(3) == 0 && text.length() > 0) {
            int place = random.nextInt(text.length());
            String signs = " ;.0123456789abcdrow" + (char) 200;
            text.setCharAt(place, signs.charAt(random.nextInt(signs.length())));
        }
        if (random.nextInt(8) == 0) {
            text.setLength(random.nextInt(text.length() + 1));
        }
        return text.length() > 400 ? text.substring(0, 400) : text.toString();
    }

    private static void addNumbers(Random random, int kind, StringBuilder text) {
        int over = random.nextInt(40) == 0 ? 20 : 0;
        switch (kind) {
            case 0:
                for (int c = 0; c < 8; c++) {
                    text.append(random.nextInt(3) == 0 ? random.nextInt(100 + over) : random.nextInt(4)).append(' ');
                }
                break;
            case 1: text.append(random.nextInt(48 + over)).append(' ').append(1 + random.nextInt(99 + over)); break;
            case 2: text.append(random.nextInt(48 + over)).append(' ').append(1 + random.nextInt(50 + over)); break;
            case 3: text.append(1 + random.nextInt(random.nextBoolean() ? 40 : 999)); break;
            case 4: text.append(random.nextInt(random.nextBoolean() ? 2 : 10 + over)); break;
            case 5: break;
            case 6: text.append(random.nextInt(10 + over)); break;
            case 7: text.append(1 + random.nextInt(9 + over)).append(' ').append(1 + random.nextInt(random.nextBoolean() ? 9 : 99)); break;
            case 8: text.append(3 + random.nextInt(2)); break;
            default:
                int[] round = random.nextBoolean() ? new int[] {3, 6, 5} : new int[] {3, 6, 12, 9};
                for (int i = 0; i < 1 + random.nextInt(random.nextInt(20) == 0 ? 14 : 12); i++) {
                    text.append(random.nextInt(6) == 0 ? random.nextInt(8 + over) : round[i % round.length]).append(' ');
                }
                break;
        }
    }
}
