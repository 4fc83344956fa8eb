import java.lang.reflect.InvocationTargetException;
import java.lang.reflect.Method;
import java.lang.reflect.Modifier;
import java.util.Arrays;
import java.util.Comparator;

/** Each call with all numbers that lie at some bound or at the ends of int: nothing throws, and all is as the Model says. */
public final class ExtremesTest {
    private static final Check CHECK = new Check("ExtremesTest");
    private static final int[] NUMBERS = {Integer.MIN_VALUE, -2, -1, 0, 1, 3, 4, 7, 8, 20, 21, 40, 47, 48, 99, 100, 999, 1000,
        Integer.MAX_VALUE};
    private static final long[] LONGS = {Long.MIN_VALUE, -1, 0, 0x647261696e3b2020L, Long.MAX_VALUE};
    private static final String[] TEXTS = {"", "cap 9;smear 3;dark 1;trap 40 5;hot 7 9;row 9 0 50 0 3 0 0 1;phases 4;clock 7 12 11;",
        "drain;cap 999;smear 9;gain 9 1;row 99 99 99 99 99 99 99 99;clock 7;"};
    /** As many as an object is promised for, less those that make a scene. */
    private static final int CALLS = 440;

    private BucketSheet x;
    private Model model;
    private int calls;
    private int scenes;

    public static void main(String[] args) throws Exception {
        ExtremesTest test = new ExtremesTest();
        Method[] face = BucketSheet.class.getDeclaredMethods();
        Arrays.sort(face, Comparator.comparing(Method::getName));
        for (Method m : face) {
            if (Modifier.isPublic(m.getModifiers())) {
                test.newScene();
                test.tryAll(m, new Object[m.getParameterCount()], 0);
            }
        }
        CHECK.end();
    }

    private void tryAll(Method m, Object[] with, int i) throws Exception {
        if (i == with.length) {
            compare(m, with);
        } else if (m.getParameterTypes()[i] == long.class) {
            for (long v : LONGS) {
                with[i] = v;
                tryAll(m, with, i + 1);
            }
        } else {
            for (int v : NUMBERS) {
                with[i] = v;
                // four numbers at once: each third of those above 8
                if (with.length < 4 || v <= 8 || v % 3 == 0 || v == Integer.MAX_VALUE) {
                    tryAll(m, with, i + 1);
                }
            }
        }
    }

    private void compare(Method m, Object[] with) throws Exception {
        if (calls > CALLS) {
            newScene();
        }
        calls++;
        call(m, with);
    }

    private void call(Method m, Object... with) throws Exception {
        Method other = Model.class.getDeclaredMethod(m.getName(), m.getParameterTypes());
        long want = ((Number) other.invoke(model, with)).longValue();
        String name = m.getName() + Arrays.toString(with);
        try {
            CHECK.due(name, ((Number) m.invoke(x, with)).longValue(), want);
        } catch (InvocationTargetException e) {
            System.out.println(name + " threw " + e.getCause());
            CHECK.due(name, Long.MIN_VALUE, want);
        }
    }

    /** One of three texts, then CHARGE in WELLS, THE LINE, TRAPS, an IMAGE and two SHEETS. */
    private void newScene() throws Exception {
        x = new BucketSheet();
        model = new Model();
        calls = 0;
        for (long v : Check.eights(TEXTS[scenes++ % TEXTS.length])) {
            x.feed(v);
            model.feed(v);
        }
        call(BucketSheet.class.getMethod("text"));
        call(BucketSheet.class.getMethod("expose", int.class), 3);
        for (int i = 0; i < 5; i++) {
            call(BucketSheet.class.getMethod("down"));
        }
        call(BucketSheet.class.getMethod("read"));
        call(BucketSheet.class.getMethod("keep", int.class), 1);
        call(BucketSheet.class.getMethod("sheet", int.class, int.class, int.class), 0, 0, 40);
        call(BucketSheet.class.getMethod("sheet", int.class, int.class, int.class), 1, 1, 7);
        for (int i = 0; i < 7; i++) {
            call(BucketSheet.class.getMethod("lay", int.class, int.class, int.class), 1, i, 6 * i + 20);
        }
    }
}
