import java.lang.reflect.InvocationTargetException;
import java.lang.reflect.Method;
import java.lang.reflect.Modifier;
import java.nio.charset.StandardCharsets;
import java.util.ArrayList;
import java.util.Arrays;
import java.util.Comparator;
import java.util.List;
import java.util.Random;

/**
 * Calls with whatever arguments, in whatever states: what is thrown is declared, is thrown by the
 * class's own throw statements and is counted by status(); each call makes few objects.
 */
public final class RobustTest {
    private static final int[] ODD = {Integer.MIN_VALUE, Integer.MIN_VALUE + 1, -100, -2, -1, 0, 0, 0, 1, 1, 2, 3, 4, 5, 6, 7, 8,
        9, 15, 16, 31, 60, 61, 96, 97, 127, 128, 150, 151, 600, 601, 99_999, 100_000, Integer.MAX_VALUE - 1, Integer.MAX_VALUE};
    private static final String[] REASONS = {"java.util.NoSuchElementException", "java.lang.IllegalArgumentException",
        "java.lang.NullPointerException", "java.lang.IndexOutOfBoundsException", "java.lang.ArithmeticException",
        "java.lang.ArrayStoreException"};
    private static final List<String> OWN_TEXTS = List.of("no such member", "no such vector",
        "an argument is out of its range", "the member has no fragment", "no such symbol or place", "beyond 32 bits",
        "the shelf takes fragments alone");
    private static final String[] TEXTS = {"group 7 2;stripes 3;traitor 6;", "group 1 0;", "group 2 0;stripes 1;traitor 0;",
        "symbol 96;symbol 95;symbol 94;symbol 93;", "deal 0;deal 1;deal 2;deal 3;", "hear 0 1;hear 1 0;hear 2 1;",
        "again 60 [again 60 [skew 0 0 999;taint 0 0 96;];];", "say 0 0 0;say 0 0 1;", "crash 0;", "0 3;1 1;", "0 0;",
        "again 60 [again 60 [again 60 [again 60 [again 60 [again 60 [];];];];];];", "[[[[", "again 1 [", ";;", "9999999999 9;"};

    private static int wrong = 0;
    private static long calls = 0;
    private static long made = 0;
    private static long dearest = 0;

    private static void fail(String what) {
        wrong++;
        System.out.println(what);
    }

    /** Answers how many calls it took. */
    private static int feed(SumDispersal x, byte[] text) {
        byte[] bytes = Arrays.copyOf(text, (text.length + 19) / 20 * 20);
        for (int at = 0; at < bytes.length; at += 20) {
            int[] w = new int[5];
            for (int i = 0; i < 20; i++) {
                w[i / 4] = w[i / 4] << 8 | bytes[at + i] & 255;
            }
            x.feed(w[0], w[1], w[2], w[3], w[4]);
        }
        return bytes.length / 20;
    }

    private static List<Method> face() {
        List<Method> methods = new ArrayList<>();
        for (Method m : SumDispersal.class.getDeclaredMethods()) {
            if (Modifier.isPublic(m.getModifiers())) {
                methods.add(m);
            }
        }
        methods.sort(Comparator.comparing(Method::getName));
        return methods;
    }

    private static void callAny(SumDispersal x, Method method, Random random, int[] counts) throws IllegalAccessException {
        Object[] arguments = new Object[method.getParameterCount()];
        for (int i = 0; i < arguments.length; i++) {
            arguments[i] = random.nextInt(3) == 0 ? ODD[random.nextInt(ODD.length)] : random.nextInt(4);
        }
        calls++;
        try {
            method.invoke(x, arguments);
        } catch (InvocationTargetException e) {
            Throwable thrown = e.getCause();
            String name = method.getName() + Arrays.toString(arguments) + " throws " + thrown;
            if (!Arrays.asList(method.getExceptionTypes()).contains(thrown.getClass())) {
                fail(name + ", which is not declared");
            }
            if (!OWN_TEXTS.contains(thrown.getMessage())) {
                fail(name + ", which the machine threw");
            }
            for (int reason = 0; reason < REASONS.length; reason++) {
                counts[reason] += thrown.getClass().getName().equals(REASONS[reason]) ? 1 : 0;
            }
        }
    }

    /** Answers how many calls it took. */
    private static int tellAny(SumDispersal x, Random random) {
        String text = TEXTS[random.nextInt(TEXTS.length)];
        int kind = random.nextInt(3);
        x.book(0);
        int fed = feed(x, text.getBytes(StandardCharsets.ISO_8859_1));
        if (kind == 0) {
            x.dispersal(text.length());
        } else if (kind == 1 || text.length() > 60) {
            x.work(text.length());
        } else {
            x.book(text.length());
        }
        return fed + 2;
    }

    private static void anyCalls(int seed) throws IllegalAccessException {
        Random random = new Random(seed);
        SumDispersal x = new SumDispersal();
        int[] counts = new int[6];
        List<Method> face = face();
        // What status() answers is promised of the first 512 calls alone, and it is asked six times.
        int used = 0;
        while (used < 500) {
            if (random.nextInt(6) == 0) {
                used += tellAny(x, random);
            } else if (random.nextInt(12) == 0) {
                byte[] rubbish = new byte[1 + random.nextInt(40)];
                random.nextBytes(rubbish);
                used += feed(x, rubbish);
            } else {
                used++;
                callAny(x, face.get(random.nextInt(face.size())), random, counts);
            }
        }
        for (int reason = 0; reason < 6; reason++) {
            if (x.status(reason) != counts[reason]) {
                fail("seed " + seed + ": status(" + reason + ") is " + x.status(reason) + ", thrown were " + counts[reason]);
            }
        }
    }

    /** The room is for all calls of a run: 600,000 objects, 7.3 million fields and elements. */
    private static void room() {
        com.sun.management.ThreadMXBean bean =
            (com.sun.management.ThreadMXBean) java.lang.management.ManagementFactory.getThreadMXBean();
        long me = Thread.currentThread().getId();
        long before = bean.getThreadAllocatedBytes(me);
        SumDispersal x = new SumDispersal();
        made = bean.getThreadAllocatedBytes(me) - before;
        if (made > 16_000) {
            fail("a new object takes " + made + " bytes");
        }
        feed(x, "group 7 2;stripes 3;".getBytes(StandardCharsets.ISO_8859_1));
        x.dispersal(20);
        for (int i = 0; i < 50; i++) {
            before = bean.getThreadAllocatedBytes(me);
            x.image();
            x.work(0);
            x.restore();
            x.fits(0);
            x.look(1);
            x.safe();
            x.doom(0);
            x.unlike();
            x.loose(127);
            x.span(i, 5, 96, 3, 0, 0);
            dearest = Math.max(dearest, bean.getThreadAllocatedBytes(me) - before);
        }
        if (dearest > 8_000) {
            fail("ten calls take " + dearest + " bytes");
        }
    }

    public static void main(String[] args) throws IllegalAccessException {
        for (int seed = 0; seed < 600 && wrong < 20; seed++) {
            anyCalls(seed);
        }
        room();
        System.out.println(calls + " calls, " + wrong + " wrong; " + made + " bytes a new object, " + dearest + " ten dear calls");
        if (wrong != 0) {
            System.exit(1);
        }
    }
}
