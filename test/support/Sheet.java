import java.io.IOException;
import java.nio.charset.StandardCharsets;
import java.nio.file.Files;
import java.nio.file.Path;
import java.util.ArrayList;
import java.util.Arrays;
import java.util.List;
import java.util.NoSuchElementException;

/**
 * What the tests of the document's sentences share. A test begins with sentence(..), which quotes
 * the words of the document that it looks at; what is wrong is told with these words.
 */
class Sheet {
    static final Class<?> NO_SUCH = NoSuchElementException.class;
    static final Class<?> ARGUMENT = IllegalArgumentException.class;
    static final Class<?> NULL = NullPointerException.class;
    static final Class<?> INDEX = IndexOutOfBoundsException.class;
    static final Class<?> ARITHMETIC = ArithmeticException.class;
    static final Class<?> STORE = ArrayStoreException.class;
    /** By the numbers of status(). */
    static final List<Class<?>> REASONS = List.of(NO_SUCH, ARGUMENT, NULL, INDEX, ARITHMETIC, STORE);

    /** Numbers that are no "what", place or kind of any call, beside those just beyond its own. */
    static final int[] FAR = {Integer.MIN_VALUE, -2, 1000, 65_536, Integer.MAX_VALUE};

    /**
     * Stripe 0 is 10 + 2 x: 12, 14, 16, 18; stripe 1 is 90 + 9 x: 2, 11, 20, 29 (what is left by
     * 97); the sums are 206, 1081, 1956, 2831.
     */
    static final String FOUR = "group 4 1;stripes 2;symbol 10;symbol 2;symbol 90;symbol 9;";
    static final String DEAL_FOUR = "deal 0;deal 1;deal 2;deal 3;";
    static final String HEAR_FOUR =
        "hear0 1;hear0 2;hear0 3;hear1 0;hear1 2;hear1 3;hear2 0;hear2 1;hear2 3;hear3 0;hear3 1;hear3 2;";

    private static final List<String> QUOTES = new ArrayList<>();
    private static String quoted = "";
    private static int asked = 0;
    private static int wrong = 0;

    interface Call {
        int ask(SumDispersal x);
    }

    interface Recipe {
        SumDispersal make();
    }

    // ---- what is looked at ----

    static void sentence(String quote) {
        quoted = quote;
        QUOTES.add(quote);
    }

    static void due(String what, int got, int want) {
        dueText(what, String.valueOf(got), String.valueOf(want));
    }

    static void dueText(String what, String got, String want) {
        asked++;
        if (!got.equals(want)) {
            wrong++;
            System.out.println("\"" + quoted + "\"\n    " + what + " answered " + got + ", due is " + want);
        }
    }

    /** The call throws just that, status() counts it by its reason alone, and all else stays. */
    static void refused(Recipe recipe, Class<?> want, String what, Call call) {
        SumDispersal x = recipe.make();
        SumDispersal twin = recipe.make();
        dueText(what, thrownBy(x, call), want.getSimpleName());
        for (int reason = 0; reason < REASONS.size(); reason++) {
            int more = REASONS.get(reason) == want ? 1 : 0;
            due("status(" + reason + ") behind " + what, x.status(reason), twin.status(reason) + more);
        }
        dueText("all else behind " + what, picture(x), picture(twin));
    }

    static void refused(SumDispersal x, Class<?> want, String what, Call call) {
        dueText(what, thrownBy(x, call), want.getSimpleName());
    }

    private static String thrownBy(SumDispersal x, Call call) {
        try {
            return String.valueOf(call.ask(x));
        } catch (RuntimeException e) {
            return e.getClass().getSimpleName();
        }
    }

    /** The call is answered, and nothing of the object is other than without it. */
    static void unchanged(Recipe recipe, String what, Call call) {
        SumDispersal x = recipe.make();
        SumDispersal twin = recipe.make();
        asked++;
        String thrown = thrownBy(x, call);
        if (thrown.endsWith("Exception")) {
            dueText(what, thrown, "an answer");
        }
        dueText("all else behind " + what, picture(x), picture(twin));
    }

    /** All that can be asked of an object but for status(); it is spent then. */
    static String picture(SumDispersal x) {
        int bytes = x.count(1);
        int fault = x.fault();
        int refused = x.told(10);
        int tape = x.work(Math.min(150, bytes));
        int at = x.fault();
        if (tape >= 0) {
            x.undo();
        }
        return "fault " + fault + " refused " + refused + " bytes " + bytes + " tape " + tape + " at " + at + " " + kept(x);
    }

    /** All but for the TAPE, the FAULT and status(); the object is spent then. */
    static String kept(SumDispersal x) {
        StringBuilder p = new StringBuilder(state(x));
        p.append(" refused ").append(x.told(10)).append(" shelf");
        for (int place = 0; place < 7; place++) {
            p.append(' ').append(x.shelf(place));
        }
        p.append(" counts ").append(x.count(0)).append(' ').append(x.count(2));
        p.append(" book ").append(x.told(9)).append(' ').append(x.fits(0)).append(' ').append(x.fits(1))
            .append(' ').append(x.look(0)).append(' ').append(x.look(1));
        p.append(" undone ").append(x.undo()).append(' ').append(brief(x));
        p.append(" restored ").append(x.restore()).append(' ').append(brief(x));
        return p.toString();
    }

    private static String brief(SumDispersal x) {
        return x.told(3) + "/" + x.told(4) + "/" + x.told(6) + "/" + x.told(7) + "/" + x.told(8) + "/" + x.count(2);
    }

    /** All that WORK changes, and the DISPERSAL. */
    static String state(SumDispersal x) {
        StringBuilder p = new StringBuilder("told");
        for (int what = 0; what <= 8; what++) {
            p.append(' ').append(x.told(what));
        }
        int n = x.told(0);
        for (int m = 0; m < n; m++) {
            p.append(" member ").append(m).append(" skewed ").append(x.skewed(m));
            for (int what = 0; what <= 4; what++) {
                p.append(' ').append(x.member(m, what));
            }
            for (int j = 0; j < x.told(2); j++) {
                p.append(" s").append((x.told(7) >> m & 1) == 1 ? x.symbol(m, j) : -1);
                p.append(" d").append(x.dealer(m, j));
            }
            for (int other = 0; other < n; other++) {
                p.append(" h").append(x.heard(m, other, 0)).append(',').append(x.heard(m, other, 1));
            }
        }
        for (int v = 0; v < x.told(3); v++) {
            for (int m = 0; m < n; m++) {
                p.append(" v").append(x.vector(v, m));
            }
        }
        return p.toString();
    }

    // ---- wrong arguments ----

    interface Asked {
        int ask(SumDispersal x, int number);
    }

    /** Numbers 0 to most are answered; what is beyond is refused. */
    static void whatTo(int most, String what, Asked call) {
        for (int number = 0; number <= most; number++) {
            int right = number;
            unchanged(Sheet::full, what + " of " + number, o -> call.ask(o, right));
        }
        refusedAll(Sheet::full, ARGUMENT, what, call, -1, most + 1);
    }

    /** A MEMBER of the four is answered, or refused by what another test looks at; beyond them none is. */
    static void memberOf(String what, Asked call) {
        refusedAll(Sheet::full, NO_SUCH, what, call, -1, 4, 5, 7);
        refusedAll(() -> made("group 1 0;", "deal 0;"), NO_SUCH, what + " of one", call, -1, 1);
        refusedAll(() -> made("group 7 2;"), NO_SUCH, what + " of seven", call, -1, 7, 8);
    }

    /** There are two VECTORS. */
    static void vectorOf(String what, Asked call) {
        refusedAll(Sheet::full, NO_SUCH, what, call, -1, 2, 7, 8);
        refusedAll(Sheet::fresh, NO_SUCH, what + " of a new one", call, -1, 1);
        refusedAll(() -> made("", "again 7[skew 0 0 1;];"), NO_SUCH, what + " of eight", call, -1, 8);
    }

    /** Bits of four MEMBERS. */
    static void setOf(String what, Asked call) {
        for (int members = 0; members < 16; members++) {
            int right = members;
            unchanged(Sheet::full, what + " of " + members, o -> call.ask(o, right));
        }
        refusedAll(Sheet::full, ARGUMENT, what, call, -1, 16, 17, 31, 64, 128, -16);
        refusedAll(() -> made("group 1 0;"), ARGUMENT, what + " of one", call, -1, 2, 3);
        refusedAll(() -> made("group 7 2;"), ARGUMENT, what + " of seven", call, -1, 128, 129);
        unchanged(() -> made("group 7 2;"), what + " of all seven", o -> call.ask(o, 127));
    }

    static void refusedAll(Recipe recipe, Class<?> want, String what, Asked call, int... numbers) {
        for (int number : numbers) {
            refused(recipe, want, what + " of " + number, o -> call.ask(o, number));
        }
        for (int number : FAR) {
            refused(recipe, want, what + " of " + number, o -> call.ask(o, number));
        }
    }

    // ---- texts ----

    static void feed(SumDispersal x, String text) {
        byte[] bytes = Arrays.copyOf(text.getBytes(StandardCharsets.ISO_8859_1), (text.length() + 19) / 20 * 20);
        for (int at = 0; at < bytes.length; at += 20) {
            int[] w = new int[5];
            for (int i = 0; i < 20; i++) {
                w[i / 4] = w[i / 4] << 8 | bytes[at + i] & 255;
            }
            x.feed(w[0], w[1], w[2], w[3], w[4]);
        }
    }

    static int dispersal(SumDispersal x, String text) {
        feed(x, text);
        return x.dispersal(text.length());
    }

    static int work(SumDispersal x, String text) {
        feed(x, text);
        return x.work(text.length());
    }

    static int book(SumDispersal x, String text) {
        feed(x, text);
        return x.book(text.length());
    }

    static SumDispersal made(String dispersal, String... works) {
        SumDispersal x = new SumDispersal();
        if (dispersal(x, dispersal) < 0) {
            throw new IllegalStateException("a fault in " + dispersal);
        }
        for (String text : works) {
            if (work(x, text) < 0) {
                throw new IllegalStateException("a fault in " + text);
            }
        }
        return x;
    }

    /** 0, 1, 2 are done by vector 0; the traitor 3 has a forged fragment. */
    static SumDispersal forged() {
        return made(FOUR + "traitor 3;", DEAL_FOUR + "forge 3 0 1;", HEAR_FOUR, HEAR_FOUR);
    }

    /** All are done by vector 1, in which the sum of 3 is 1 more than that of its fragment. */
    static SumDispersal skewedForAll() {
        return made(FOUR, "skew0 3 1;skew1 3 1;skew2 3 1;skew3 3 1;" + DEAL_FOUR, HEAR_FOUR, HEAR_FOUR);
    }

    /** A traitor, vectors, a book, works, refused steps, an image, something on the shelf. */
    static SumDispersal rich() {
        SumDispersal x = made(FOUR + "traitor 3;", "skew 2 0 7;taint 1 0 5;deal 0;deal 3;say 3 1 0;", "hear 0 3;crash 2;crash 2;");
        book(x, "0 1;2 0;");
        x.image();
        x.shelve(0, 0, 2);
        work(x, "forge 3 1 2;hear 1 3;hear 1 3;");
        return x;
    }

    /** All that, and a fault, and bytes on the tape. */
    static SumDispersal full() {
        SumDispersal x = rich();
        dispersal(x, "group 9 9;");
        feed(x, "taint 0 0 1;tai");
        return x;
    }

    static SumDispersal fresh() {
        return new SumDispersal();
    }

    // ---- the end ----

    static int wrongs() {
        return wrong;
    }

    static String tally() {
        return QUOTES.size() + " sentences, " + asked + " answers looked at, " + wrong + " wrong";
    }

    /**
     * Each quote stands in the document, and what the document tells of the calls, from "Terms" on
     * (but for the heads and the signatures of the promises), stands in a quote.
     */
    static void holdAgainstDocument() throws IOException {
        String document = Files.readString(Path.of("../shared/DOC.md"));
        String about = document.substring(document.indexOf("An object is used"), document.indexOf("## The public face"));
        String terms = document.substring(document.indexOf("## Terms"), document.indexOf("## Not promised"));
        String text = (about + terms).replaceAll("(?m)^##.*$|^```.*$|^`[^`]*`:", "").replaceAll("\\s+", " ");
        boolean[] seen = new boolean[text.length()];
        for (String quote : QUOTES) {
            int at = text.indexOf(quote);
            quoted = quote;
            dueText("its place in the document", at < 0 ? "none" : "there", "there");
            for (int next = at; next >= 0; next = text.indexOf(quote, next + 1)) {
                Arrays.fill(seen, next, next + quote.length(), true);
            }
        }
        StringBuilder left = new StringBuilder();
        for (int i = 0; i < text.length(); i++) {
            left.append(seen[i] ? '\n' : text.charAt(i));
        }
        quoted = "";
        dueText("what no test quotes", left.toString().replaceAll("==== \\d\\.|[\\s;:,.]+", " ").trim(), "");
    }
}
