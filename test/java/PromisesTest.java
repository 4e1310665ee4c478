import java.nio.charset.StandardCharsets;
import java.util.Arrays;
import java.util.NoSuchElementException;

/** One method for each promise of the document: ordinary inputs, edges, wrong inputs. */
public final class PromisesTest {
    private static int wrong = 0;
    private static int asked = 0;
    private static int promise = 0;

    private static final Class<?> NO_SUCH = NoSuchElementException.class;
    private static final Class<?> ARGUMENT = IllegalArgumentException.class;
    private static final Class<?> NULL = NullPointerException.class;
    private static final Class<?> INDEX = IndexOutOfBoundsException.class;
    private static final Class<?> ARITHMETIC = ArithmeticException.class;
    private static final Class<?> STORE = ArrayStoreException.class;

    /**
     * Stripe 0 is 10 + 2 x: 12, 14, 16, 18; stripe 1 is 90 + 9 x: 2, 11, 20, 29 (what is left by
     * 97); the sums are 206, 1081, 1956, 2831.
     */
    private static final String FOUR = "group 4 1;stripes 2;symbol 10;symbol 2;symbol 90;symbol 9;";
    private static final String DEAL_FOUR = "deal 0;deal 1;deal 2;deal 3;";
    private static final String HEAR_FOUR =
        "hear0 1;hear0 2;hear0 3;hear1 0;hear1 2;hear1 3;hear2 0;hear2 1;hear2 3;hear3 0;hear3 1;hear3 2;";

    interface Call {
        int ask();
    }

    private static void due(String call, int got, int want) {
        asked++;
        if (got != want) {
            wrong++;
            System.out.println("promise " + promise + ": " + call + " answered " + got + ", due is " + want);
        }
    }

    private static void refused(String call, Class<?> want, Call got) {
        asked++;
        String answer;
        try {
            answer = String.valueOf(got.ask());
        } catch (RuntimeException e) {
            if (e.getClass() == want) {
                return;
            }
            answer = e.getClass().getName();
        }
        wrong++;
        System.out.println("promise " + promise + ": " + call + " answered " + answer + ", due is " + want.getName());
    }

    private static void feed(SumDispersal x, String text) {
        byte[] bytes = Arrays.copyOf(text.getBytes(StandardCharsets.ISO_8859_1), (text.length() + 19) / 20 * 20);
        for (int at = 0; at < bytes.length; at += 20) {
            int[] w = new int[5];
            for (int i = 0; i < 20; i++) {
                w[i / 4] = w[i / 4] << 8 | bytes[at + i] & 255;
            }
            x.feed(w[0], w[1], w[2], w[3], w[4]);
        }
    }

    private static int dispersal(SumDispersal x, String text) {
        feed(x, text);
        return x.dispersal(text.length());
    }

    private static int work(SumDispersal x, String text) {
        feed(x, text);
        return x.work(text.length());
    }

    private static int book(SumDispersal x, String text) {
        feed(x, text);
        return x.book(text.length());
    }

    private static SumDispersal made(String dispersal, String... works) {
        SumDispersal x = new SumDispersal();
        if (dispersal(x, dispersal) < 0) {
            throw new IllegalStateException("a fault in " + dispersal);
        }
        for (String text : works) {
            if (work(x, text) < 0) {
                throw new IllegalStateException("a fault in " + text);
            }
        }
        return x;
    }

    private static void dispersalFault(String text, int kind, int place) {
        SumDispersal x = new SumDispersal();
        due("dispersal of '" + text + "'", dispersal(x, text), kind - 10);
        due("fault of '" + text + "'", x.fault(), place);
        due("bytes behind '" + text + "'", x.count(1), 0);
    }

    private static void workFault(String text, int kind, int place) {
        SumDispersal x = made("group 4 1;stripes 2;traitor 3;");
        due("work of '" + text + "'", work(x, text), kind - 10);
        due("fault of '" + text + "'", x.fault(), place);
        due("dealt to behind '" + text + "'", x.told(6), 0);
        due("works behind '" + text + "'", x.count(2), 0);
    }

    private static void bookFault(String text, int kind, int place) {
        SumDispersal x = new SumDispersal();
        book(x, "1 0;");
        due("book of '" + text + "'", book(x, text), kind - 10);
        due("fault of '" + text + "'", x.fault(), place);
        due("lines behind '" + text + "'", x.told(9), 1);
    }

    private static void promise1() {
        SumDispersal x = new SumDispersal();
        int[] told = {4, 1, 2, 1, 15, 0, 0, 0, 0, 0, 0};
        for (int what = 0; what < told.length; what++) {
            due("told(" + what + ")", x.told(what), told[what]);
        }
        due("vector(0, 3)", x.vector(0, 3), 0);
        due("fault()", x.fault(), -1);
        for (int what = 0; what < 3; what++) {
            due("count(" + what + ")", x.count(what), 0);
        }
        due("NONE", SumDispersal.NONE, -1);
    }

    private static void promise2() {
        SumDispersal x = new SumDispersal();
        for (int i = 1; i <= 30; i++) {
            due("feed " + i, x.feed(0x64656178, 0, 0, 0, 0), 20 * i);
        }
        due("feed 31", x.feed(1, 2, 3, 4, 5), -1);
        due("count(1)", x.count(1), 600);
        due("work of 'deax'", x.work(4), -9);
        due("feed behind", x.feed(0x6465616c, 0x20303b64, 0x65616c20, 0x313b6465, 0x616c2033), 20);
        due("feed behind that", x.feed(0x3b202020, 0xff000000, 0x80000000, 0, 0), 40);
        due("work of 'deal 0;deal 1;deal 3;   '", x.work(24), 3);
        due("told(6)", x.told(6), 11);
        x.feed(0x20ff0000, 0, 0, 0, 0);
        due("work of a blank and 255", x.work(2), -9);
        due("fault at 255", x.fault(), 1);
    }

    private static void promise3() {
        SumDispersal x = made(FOUR, DEAL_FOUR + "deal 0;");
        book(x, "0 1;");
        x.image();
        x.shelve(0, 0, 3);
        feed(x, "group 2 0;stripes 1;");
        refused("dispersal(-1)", ARGUMENT, () -> x.dispersal(-1));
        refused("dispersal(21)", ARGUMENT, () -> x.dispersal(21));
        due("bytes behind refusals", x.count(1), 20);
        due("a fault", x.dispersal(19), -9);
        due("its place", x.fault(), 19);
        due("all stays: dealt to", x.told(6), 15);
        due("all stays: lines", x.told(9), 1);
        due("all stays: refused", x.told(10), 1);
        due("all stays: images", x.count(0), 1);
        due("all stays: works", x.count(2), 1);
        due("all stays: shelf", x.shelf(3), 206);
        due("the last group counts, for all",
            dispersal(x, "traitor 6; traitor2;group 7 2;traitor 1;stripes 3;group3 0 ; stripes 1;symbol 5;symbol 6;  "), 3);
        due("fault()", x.fault(), -1);
        int[] told = {3, 0, 1, 1, 7, 6, 0, 0, 0, 0, 0};
        for (int what = 0; what < told.length; what++) {
            due("told(" + what + ")", x.told(what), told[what]);
        }
        due("the second symbol is beyond K S", x.vector(0, 2), 5);
        due("no images", x.count(0), 0);
        due("no works", x.count(2), 0);
        due("an empty shelf", x.shelf(3), -1);
        due("nothing to undo", x.undo(), -1);
        due("no clauses", x.dispersal(0), 4);
        due("T is 1 again", x.told(1), 1);
        due("blanks alone", dispersal(x, "    "), 4);
        due("zeros ahead", dispersal(x, "group 0000000000000000005 00001;"), 5);
        due("60 clauses", dispersal(x, "traitor1;".repeat(60)), 4);
        due("600 bytes", dispersal(x, "traitor 3;".repeat(60)), 4);
        due("nine symbols", dispersal(x, "group 7 2;stripes 3;" + "symbol 96;".repeat(9)), 7);
        dispersalFaults();
    }

    private static void dispersalFaults() {
        dispersalFault("traitor1;".repeat(61), 3, 540);
        dispersalFault("traitor1;".repeat(60) + " symbol 97", 3, 541);
        dispersalFault("traitor1;".repeat(60) + "traitors1;", 1, 540);
        dispersalFault("symbol 1;".repeat(9) + " symbol", 3, 82);
        dispersalFault("symbol 1;".repeat(9) + "symbols", 1, 81);
        dispersalFault("group 0 0;", 2, 6);
        dispersalFault("group 8 2;", 2, 6);
        dispersalFault("group 3 1;", 2, 8);
        dispersalFault("group 6 2;", 2, 8);
        dispersalFault("group 7 3;", 2, 8);
        dispersalFault("group 41;", 2, 6);
        dispersalFault("group 4;", 1, 7);
        dispersalFault("group 4   ", 1, 10);
        dispersalFault("group 4 1", 1, 9);
        dispersalFault("Group 4 1;", 1, 0);
        dispersalFault("  groups 4 1;", 1, 2);
        dispersalFault("gro up 4 1;", 1, 0);
        dispersalFault("stripes 0;", 2, 8);
        dispersalFault("stripes  4;", 2, 9);
        dispersalFault("stripes 4294967297;", 2, 8);
        dispersalFault("stripes 1;;", 1, 10);
        dispersalFault("symbol 97;", 2, 7);
        dispersalFault("symbol -1;", 1, 7);
        dispersalFault("traitor 7;", 2, 8);
        dispersalFault("traitor 1 2;", 1, 10);
        dispersalFault("deal 1;", 1, 0);
        dispersalFault("5;", 1, 0);
        dispersalFault("group", 1, 5);
        dispersalFault("stripes 2\n;", 1, 9);
    }

    private static void promise4() {
        SumDispersal x = made(FOUR);
        feed(x, " deal0;hear 1 0 ; crash 003;  " + ".".repeat(150));
        refused("work(-1)", ARGUMENT, () -> x.work(-1));
        refused("work(151)", ARGUMENT, () -> x.work(151));
        due("work(30)", x.work(30), 3);
        due("fault()", x.fault(), -1);
        refused("work(1)", ARGUMENT, () -> x.work(1));
        due("dealt to", x.told(6), 1);
        due("up", x.told(4), 7);
        due("again", work(x, "again 3[taint 0 0 1;again 2 [taint 0 1 1;];again 0 [crash 0;];];"), 9);
        due("dealer(0, 0)", x.dealer(0, 0), 15);
        due("dealer(0, 1)", x.dealer(0, 1), 8);
        due("refused ones are not counted", work(x, "deal 0;deal 1;deal 1;"), 1);
        due("two refused", x.told(10), 2);
        // again, then 60 times: an again and 60 of taint: 1 + 3 61 + 1 + 15 are 200.
        due("200 at most", work(x, "again 60[again 60[taint 1 0 1;];];crash 0;"), 195);
        due("nothing behind it", x.told(4), 7);
        due("200 refused", work(x, "again 60[again 60[crash 3;];];crash 0;"), 0);
        due("told(10)", x.told(10), 195);
        due("again of nothing counts", work(x, "again 60[again 60[];again 60[];again60[];];taint 0 0 1;taint 0 0 1;"), 2);
        due("again of nothing, to 200", work(x, "again 50[again 60[];again 60[];again60[];again 1[];];taint 0 0 1;"), 0);
        due("six are open", work(x, "again1[again1[again1[again1[again1[again1[taint 0 0 1;];];];];];];again1[again1[];];"), 1);
        stepsOfWork();
        worksThatAreThere();
        workFaults();
    }

    private static void stepsOfWork() {
        SumDispersal x = made("group 4 1;stripes 1;symbol 10;symbol 20;traitor 3;");
        due("a wrong sum gives no fragment", work(x, "taint 0 0 1;deal 0;"), 2);
        due("told(7)", x.told(7), 0);
        due("its vector", x.member(0, 1), 0);
        due("no echo", x.member(0, 2), -1);
        due("behind it changes nothing of its own", work(x, "taint 0 0 96;skew 0 0 1;deal 0;"), 2);
        due("still no fragment", x.told(7), 0);
        due("still by vector 0", x.member(0, 1), 0);
        due("forge without a fragment, of no traitor", work(x, "forge 3 0 1;forge 1 0 1;"), 0);
        due("a traitor says no echo", work(x, "deal 3;"), 1);
        due("member(3, 2)", x.member(3, 2), -1);
        due("say: no traitor, no vector, the same", work(x, "say 1 0 0;say 3 2 0;say 3 1 0;say 3 1 0;say 3 0 0;say 3 0 1;"), 3);
        due("what it said last", x.member(3, 2), 0);
        due("hear itself, nothing new", work(x, "hear 1 1;hear 1 0;"), 0);
        due("hear", work(x, "hear 1 3;hear 1 3;say 3 1 0;hear 1 3;"), 3);
        due("what it heard ahead is forgotten", x.heard(1, 3, 0), 1);
        due("the other one stays", x.heard(1, 3, 1), 0);
        due("not up: no deal, hear, say; forge goes on", work(x, "crash 3;crash 3;say 3 0 0;crash 1;deal 1;hear 1 3;forge 3 0 7;"), 3);
        due("what it said can be heard still", work(x, "hear 2 3;"), 1);
        due("forged", x.symbol(3, 0), (90 + 7) % 97);
        skews();
    }

    private static void skews() {
        SumDispersal x = made("group 2 0;stripes 1;symbol 10;");
        due("skews", work(x, "skew 0 0 1;skew 0 1 1;skew 1 1 1;skew 1 0 1;skew 0 0 2;skew 1 0 1;skew 1 0 1;"), 7);
        // (11,10) (11,11) (10,11), then (11,11) again, (13,11), (12,11), (13,11) again.
        due("vectors", x.told(3), 6);
        due("skewed(0)", x.skewed(0), 4);
        due("skewed(1)", x.skewed(1), 4);
        due("to eight", work(x, "again 9 [skew 0 1 1;];"), 2);
        due("told(10)", x.told(10), 7);
        due("there are 8", x.told(3), 8);
        due("one that is there", work(x, "skew 1 1 1;skew 1 1 1;skew 1 1 1;"), 2);
        due("skewed(1)", x.skewed(1), 7);
        SumDispersal y = made("group 1 0;stripes 3;symbol 96;symbol 96;symbol 96;", "again 60[skew 0 0 999;];");
        due("eight there, too", y.told(3), 8);
        due("vector(7, 0)", y.vector(7, 0), 912672 + 7 * 999);
    }

    private static void worksThatAreThere() {
        SumDispersal x = made(FOUR);
        for (int i = 0; i < 16; i++) {
            due("work " + i, work(x, "taint 0 0 1;"), 1);
        }
        book(x, "9 0;");
        due("a fault ahead", x.fault(), 0);
        feed(x, "deal 9;");
        refused("work(21)", ARGUMENT, () -> x.work(21));
        due("bytes", x.count(1), 20);
        due("a 17th", x.work(7), -20);
        due("fault()", x.fault(), -1);
        due("bytes behind", x.count(1), 0);
        due("dealer(0, 0)", x.dealer(0, 0), 28);
        due("undo()", x.undo(), 15);
        due("work then", work(x, "taint 0 0 1;"), 1);
    }

    private static void workFaults() {
        workFault("deal 4;", 2, 5);
        workFault("deal 0;deal 1", 1, 13);
        workFault("deal 0;deal ;", 1, 12);
        workFault("deals 0;", 1, 0);
        workFault("hear 4 0;", 2, 5);
        workFault("hear 0 4;", 2, 7);
        workFault("hear 0;", 1, 6);
        workFault("taint 4 0 1;", 2, 6);
        workFault("taint 0 2 1;", 2, 8);
        workFault("taint 0 0 0;", 2, 10);
        workFault("taint 0 0 97;", 2, 10);
        workFault("skew 4 0 1;", 2, 5);
        workFault("skew 0 4 1;", 2, 7);
        workFault("skew 0 0 0;", 2, 9);
        workFault("skew 0 0 1000;", 2, 9);
        workFault("say 4 0 0;", 2, 4);
        workFault("say 3 8 0;", 2, 6);
        workFault("say 3 0 2;", 2, 8);
        workFault("forge 3 0 97;", 2, 10);
        workFault("forge 3 2 1;", 2, 8);
        workFault("forge 3 0 0;", 2, 10);
        workFault("crash 4;", 2, 6);
        workFault("again 61 [];", 2, 6);
        workFault("again 1 deal 0;];", 1, 8);
        workFault("again 1 [deal 0;]", 1, 17);
        workFault("again 1 [deal 0;", 1, 16);
        workFault("again 1 [deal 0];", 1, 15);
        workFault("again 1 [", 1, 9);
        workFault("deal 0;];", 1, 7);
        workFault("deal 0;again 1[];];", 1, 17);
        workFault("again1[again1[again1[again1[again1[again1[ again", 3, 43);
        workFault("again1[again1[again1[again1[again1[again1[ agains", 1, 43);
        workFault("group 4 1;", 1, 0);
        workFault("deal 0;deal 5;deal", 2, 12);
    }

    private static void promise5() {
        SumDispersal x = made(FOUR, DEAL_FOUR);
        feed(x, "0 1; 3 0;01 2;2 3 ;" + ".".repeat(60));
        refused("book(61)", ARGUMENT, () -> x.book(61));
        refused("book(-1)", ARGUMENT, () -> x.book(-1));
        due("book(19)", x.book(19), 4);
        due("fault()", x.fault(), -1);
        due("told(9)", x.told(9), 4);
        due("60 bytes", book(x, "2 3;" + " ".repeat(56)), 1);
        due("told(9)", x.told(9), 1);
        due("none", x.book(0), 0);
        due("told(9)", x.told(9), 0);
        bookFault("0 4;", 2, 2);
        bookFault("4 0;", 2, 0);
        bookFault("0 0;0 0;", 2, 4);
        bookFault("0 0; 0 9;", 2, 5);
        bookFault("0 0;1;", 1, 5);
        bookFault("0 0", 1, 3);
        bookFault("0  ", 1, 3);
        bookFault("a 0;", 1, 0);
        bookFault("01;", 1, 2);
    }

    private static void promise6() {
        SumDispersal x = new SumDispersal();
        due("none yet", x.fault(), -1);
        work(x, "deal 9;");
        due("of a work", x.fault(), 5);
        refused("dispersal(1)", ARGUMENT, () -> x.dispersal(1));
        due("a refusal is no text", x.fault(), 5);
        x.undo();
        due("undo is no text", x.fault(), 5);
        book(x, "0 0;");
        due("none of the latest", x.fault(), -1);
        dispersal(x, "group 1 1;");
        due("of a dispersal", x.fault(), 8);
        dispersal(x, "group 1 0;");
        due("none of a dispersal", x.fault(), -1);
        book(x, "0 7;");
        due("of a book", x.fault(), 2);
        x.work(0);
        due("none of a work", x.fault(), -1);
    }

    private static void promise7() {
        SumDispersal x = made("group 4 1;stripes 1;symbol 10;symbol 20;traitor 3;",
            "deal 3;skew 0 0 1;taint 1 0 5;", "", "deal 1;deal 2;forge 3 0 1;say 3 1 0;hear 2 3;crash 0;deal 1;");
        book(x, "0 0;");
        due("told(10)", x.told(10), 1);
        due("undo()", x.undo(), 2);
        due("told(10) behind it", x.told(10), 0);
        due("up", x.told(4), 15);
        due("dealt to", x.told(6), 8);
        due("symbol(3, 0)", x.symbol(3, 0), 90);
        due("heard(2, 3, 0)", x.heard(2, 3, 0), -1);
        due("member(3, 2)", x.member(3, 2), -1);
        due("the book stays", x.told(9), 1);
        due("of no steps", x.undo(), 1);
        due("vectors", x.told(3), 2);
        due("the last", x.undo(), 0);
        due("vectors", x.told(3), 1);
        due("skewed(0)", x.skewed(0), 0);
        due("dealer(1, 0)", x.dealer(1, 0), 50);
        due("told(7)", x.told(7), 0);
        due("none", x.undo(), -1);
        work(x, "deal 9;");
        due("a fault is no work", x.undo(), -1);
    }

    private static void promise8() {
        SumDispersal x = made("group 5 1;stripes 3;traitor 4;traitor 2;",
            "skew 1 1 3;crash 3;deal 0;deal 1;deal 2;deal 3;deal 3;");
        book(x, "0 0;1 1;");
        int[] told = {5, 1, 3, 2, 23, 20, 7, 5, 0, 2, 2};
        for (int what = 0; what < told.length; what++) {
            due("told(" + what + ")", x.told(what), told[what]);
        }
        refused("told(-1)", ARGUMENT, () -> x.told(-1));
        refused("told(11)", ARGUMENT, () -> x.told(11));
        work(x, "hear 9 9;");
        due("a fault changes no count", x.told(10), 2);
        x.image();
        due("nor does an image", x.told(10), 2);
        x.restore();
        due("restore does", x.told(10), 0);
        due("done", made("group 1 0;", "deal 0;").told(8), 1);
    }

    private static void promise9() {
        SumDispersal x = made("group 2 0;stripes 1;symbol 7;", "skew 1 0 5;deal 0;deal 1;");
        // N - T is 2: each has an echo of its own vector alone.
        int[] zero = {1, 0, 0, -1, -1};
        int[] one = {1, 1, 1, -1, -1};
        for (int what = 0; what <= 4; what++) {
            due("member(0, " + what + ")", x.member(0, what), zero[what]);
            due("member(1, " + what + ")", x.member(1, what), one[what]);
        }
        SumDispersal y = made(FOUR, DEAL_FOUR + "hear 0 1;hear 0 2;");
        due("ready", y.member(0, 0), 2);
        due("of its vector", y.member(0, 3), 0);
        work(y, HEAR_FOUR + "hear 0 1;hear 0 2;");
        due("done", y.member(0, 0), 3);
        due("done by", y.member(0, 4), 0);
        refused("member(-1, 0)", NO_SUCH, () -> y.member(-1, 0));
        refused("member(4, 9)", NO_SUCH, () -> y.member(4, 9));
        refused("member(3, 5)", ARGUMENT, () -> y.member(3, 5));
        refused("member(3, -1)", ARGUMENT, () -> y.member(3, -1));
    }

    private static void promise10() {
        SumDispersal x = made(FOUR, "deal 2;taint 2 0 1;");
        due("symbol(2, 0)", x.symbol(2, 0), 16);
        due("symbol(2, 1)", x.symbol(2, 1), 20);
        refused("symbol(2, 2)", INDEX, () -> x.symbol(2, 2));
        refused("symbol(2, -1)", INDEX, () -> x.symbol(2, -1));
        refused("symbol(1, 0)", NULL, () -> x.symbol(1, 0));
        refused("symbol(1, 5)", NULL, () -> x.symbol(1, 5));
        refused("symbol(4, 5)", NO_SUCH, () -> x.symbol(4, 5));
    }

    private static void promise11() {
        SumDispersal x = made(FOUR, "taint 3 1 96;taint 3 0 80;deal 3;");
        due("dealer(3, 1)", x.dealer(3, 1), 28);
        due("dealer(3, 0)", x.dealer(3, 0), 1);
        due("dealer(0, 1)", x.dealer(0, 1), 2);
        refused("dealer(3, 2)", INDEX, () -> x.dealer(3, 2));
        refused("dealer(3, -1)", INDEX, () -> x.dealer(3, -1));
        refused("dealer(4, 2)", NO_SUCH, () -> x.dealer(4, 2));
        SumDispersal y = made("group 7 2;stripes 3;symbol 1;symbol 2;symbol 3;symbol 4;symbol 5;symbol 6;symbol 7;symbol 8;symbol 9;");
        // 1 + 2 7 + 3 49 are 162; 7 + 8 7 + 9 49 are 504.
        due("three a stripe", y.dealer(6, 0), 65);
        due("stripe 2", y.dealer(6, 2), 19);
    }

    private static void promise12() {
        SumDispersal x = made(FOUR, "skew 0 3 999;");
        int[] sums = {206, 1081, 1956, 2831};
        for (int m = 0; m < 4; m++) {
            due("vector(0, " + m + ")", x.vector(0, m), sums[m]);
            due("vector(1, " + m + ")", x.vector(1, m), m == 3 ? 3830 : sums[m]);
        }
        refused("vector(2, 0)", NO_SUCH, () -> x.vector(2, 0));
        refused("vector(-1, 0)", NO_SUCH, () -> x.vector(-1, 0));
        refused("vector(0, 4)", NO_SUCH, () -> x.vector(0, 4));
        due("three symbols", made("group 1 0;stripes 3;symbol 1;symbol 2;symbol 3;").vector(0, 0), 1 + 194 + 28227);
    }

    private static void promise13() {
        SumDispersal x = made(FOUR, "skew 1 0 5;skew 2 0 4;skew 3 0 1;skew 3 0 4;");
        int[] by = {0, 1, 2, 1};
        for (int m = 0; m < 4; m++) {
            due("skewed(" + m + ")", x.skewed(m), by[m]);
        }
        due("(0, 0, 0, 1 more) is new", x.told(3), 4);
        refused("skewed(4)", NO_SUCH, () -> x.skewed(4));
        refused("skewed(-1)", NO_SUCH, () -> x.skewed(-1));
    }

    private static void promise14() {
        SumDispersal x = made(FOUR + "traitor 3;", "skew 1 0 1;deal 0;say 3 1 1;hear 0 3;");
        due("heard(0, 0, 0)", x.heard(0, 0, 0), 0);
        due("heard(0, 0, 1)", x.heard(0, 0, 1), -1);
        due("heard(0, 3, 0)", x.heard(0, 3, 0), -1);
        due("heard(0, 3, 1)", x.heard(0, 3, 1), 1);
        due("heard(3, 3, 1)", x.heard(3, 3, 1), 1);
        due("heard(1, 3, 1)", x.heard(1, 3, 1), -1);
        refused("heard(4, 0, 0)", NO_SUCH, () -> x.heard(4, 0, 0));
        refused("heard(0, 4, 2)", NO_SUCH, () -> x.heard(0, 4, 2));
        refused("heard(0, 3, 2)", ARGUMENT, () -> x.heard(0, 3, 2));
        refused("heard(0, 3, -1)", ARGUMENT, () -> x.heard(0, 3, -1));
    }

    private static void promise15() {
        SumDispersal x = made(FOUR + "traitor 3;", "skew 1 0 1;deal 0;deal 2;say 3 1 0;hear 0 3;hear 0 2;say 3 0 1;");
        due("voices(0, 0, 0)", x.voices(0, 0, 0), 2);
        due("voices(0, 1, 0)", x.voices(0, 1, 0), 1);
        due("voices(0, 0, 1)", x.voices(0, 0, 1), 0);
        due("voices(3, 0, 1)", x.voices(3, 0, 1), 1);
        due("voices(1, 0, 0)", x.voices(1, 0, 0), 0);
        refused("voices(4, 0, 0)", NO_SUCH, () -> x.voices(4, 0, 0));
        refused("voices(0, 2, 5)", NO_SUCH, () -> x.voices(0, 2, 5));
        refused("voices(0, -1, 0)", NO_SUCH, () -> x.voices(0, -1, 0));
        refused("voices(0, 1, 2)", ARGUMENT, () -> x.voices(0, 1, 2));
    }

    private static void promise16() {
        SumDispersal x = made(FOUR, DEAL_FOUR);
        // Turn 1: 0 and 1 are ready, 2 and 3 done; turn 2: all are.
        due("ends(0)", x.ends(0), 15);
        due("ends(1)", x.ends(1), 15);
        due("ends(2)", x.ends(2), 2);
        due("nothing stays", x.told(8), 0);
        due("nothing is heard", x.voices(0, 0, 0), 1);
        SumDispersal y = made(FOUR + "traitor 3;", "deal 0;deal 1;say 3 0 1;");
        due("two echoes: none is done", y.ends(0), 0);
        due("a traitor said ready", y.ends(1), 8);
        due("one turn", y.ends(2), 1);
        SumDispersal z = made(FOUR + "traitor 3;", "deal 0;deal 1;deal 2;crash 2;");
        due("three echoes make ready, two readies do not make done", z.ends(0), 0);
        due("ends(1)", z.ends(1), 3);
        refused("ends(3)", ARGUMENT, () -> z.ends(3));
        refused("ends(-1)", ARGUMENT, () -> z.ends(-1));
    }

    /** 3 is a traitor whose fragment is forged; 0, 1, 2 are done by vector 0. */
    private static SumDispersal forged() {
        return made(FOUR + "traitor 3;", DEAL_FOUR + "forge 3 0 1;", HEAR_FOUR, HEAR_FOUR);
    }

    private static void promise17() {
        SumDispersal x = forged();
        due("done", x.told(8), 7);
        int[][] ends = {{15, 2, 0, 2}, {14, 2, 0, 2}, {9, 0, -1, 0}, {1, 0, -1, 0}, {0, 0, -1, 0}, {5, 2, 0, 2}};
        for (int[] e : ends) {
            for (int what = 0; what <= 2; what++) {
                due("fetch(" + e[0] + ", " + what + ")", x.fetch(e[0], what), e[what + 1]);
            }
        }
        refused("fetch(16, 0)", ARGUMENT, () -> x.fetch(16, 0));
        refused("fetch(-1, 0)", ARGUMENT, () -> x.fetch(-1, 0));
        refused("fetch(3, 3)", ARGUMENT, () -> x.fetch(3, 3));
        refused("fetch(3, -1)", ARGUMENT, () -> x.fetch(3, -1));
        work(x, "crash 1;");
        due("not up: not asked", x.fetch(3, 1), -1);
        // Nobody is dealt to but 1, 2, 3; the traitor 0 opens its store, too, without a fragment.
        SumDispersal y = made(FOUR + "traitor 0;", "deal 1;deal 2;deal 3;", HEAR_FOUR, HEAR_FOUR);
        due("done without the traitor", y.told(8), 14);
        due("a traitor's store is opened, too", y.fetch(15, 2), 3);
        due("found", y.fetch(15, 0), 2);
        voids();
    }

    /** The dealer's sum for 3 is 1 more than its fragment's, in all vectors. */
    private static SumDispersal skewedForAll() {
        return made(FOUR, "skew0 3 1;skew1 3 1;skew2 3 1;skew3 3 1;" + DEAL_FOUR, HEAR_FOUR, HEAR_FOUR);
    }

    private static void voids() {
        SumDispersal x = skewedForAll();
        due("all are done by vector 1", x.sayers(1, 2), 15);
        due("void", x.fetch(15, 0), 1);
        due("by", x.fetch(15, 1), 1);
        due("too few with fragments", x.fetch(9, 0), 0);
        due("by a vector all the same", x.fetch(9, 1), 1);
        due("both are opened", x.fetch(9, 2), 2);
    }

    private static void promise18() {
        SumDispersal x = forged();
        int[] file = {10, 2, 90, 9, 0, 0, 0, 0, 0};
        for (int i = 0; i <= 8; i++) {
            due("file(15, " + i + ")", x.file(15, i), file[i]);
            due("file(6, " + i + ")", x.file(6, i), file[i]);
            due("file(9, " + i + ")", x.file(9, i), -1);
        }
        refused("file(16, 0)", ARGUMENT, () -> x.file(16, 0));
        refused("file(15, 9)", ARGUMENT, () -> x.file(15, 9));
        refused("file(9, -1)", ARGUMENT, () -> x.file(9, -1));
        due("void", skewedForAll().file(15, 0), -1);
        // Three points of three stripes of three symbols.
        StringBuilder seven = new StringBuilder("group 7 2;stripes 3;");
        int[] nine = {95, 0, 7, 1, 96, 50, 0, 0, 31};
        for (int v : nine) {
            seven.append("symbol ").append(v).append(";");
        }
        SumDispersal y = made(seven.toString(), "deal0;deal1;deal2;deal3;deal4;deal5;deal6;");
        for (int i = 0; i < 3; i++) {
            work(y, "hear0 1;hear0 2;hear0 3;hear0 4;hear0 5;hear2 0;hear2 1;hear2 3;hear2 4;hear2 5;hear4 0;hear4 1;hear4 2;hear4 3;hear4 5;");
            work(y, "hear1 0;hear1 2;hear1 3;hear1 4;hear1 5;hear3 0;hear3 1;hear3 2;hear3 4;hear3 5;");
        }
        due("0 to 4 are done", y.told(8), 31);
        for (int i = 0; i < 9; i++) {
            due("file(127, " + i + ")", y.file(127, i), nine[i]);
            due("file(21, " + i + ")", y.file(21, i), nine[i]);
        }
        due("two are too few", y.file(3, 0), -1);
    }

    private static void promise19() {
        SumDispersal x = skewedForAll();
        int[] nine = {1, 4, -4, -1, 0, 0};
        int[] all = {1, 2, -2, -1, 0, 0};
        for (int i = 0; i < 6; i++) {
            due("trace(9, " + i + ")", x.trace(9, i), nine[i]);
            due("trace(15, " + i + ")", x.trace(15, i), all[i]);
            due("trace(1, " + i + ")", x.trace(1, i), 0);
        }
        due("far behind", x.trace(15, Integer.MAX_VALUE), 0);
        refused("trace(15, -1)", ARGUMENT, () -> x.trace(15, -1));
        refused("trace(16, 0)", ARGUMENT, () -> x.trace(16, 0));
        SumDispersal y = made(FOUR + "traitor 0;", "deal 1;deal 2;deal 3;", HEAR_FOUR, HEAR_FOUR);
        int[] three = {1, 2, 3, -3, -2, -1, 0};
        for (int i = 0; i < 7; i++) {
            due("trace of three, " + i, y.trace(15, i), three[i]);
        }
    }

    private static void promise20() {
        due("none", new SumDispersal().fewest(), -1);
        due("two", forged().fewest(), 2);
        due("one", made("group 2 0;", DEAL_FOUR.substring(0, 14) + "hear 0 1;").fewest(), 1);
        // 0 and 3 are done with 1 and 2 down: 3 has no fragment by vector 1.
        SumDispersal x = skewedForAll();
        due("void, too", x.fewest(), 2);
        work(x, "crash 1;crash 2;");
        due("none with fragments", x.fewest(), -1);
        // 1 and 2 alone are done; the third asked one gives the second fragment.
        SumDispersal y = made(FOUR + "traitor 3;traitor 0;", "deal 3;deal 1;say 3 0 0;say 3 0 1;say 0 0 1;say 0 0 0;",
            "hear 1 3;hear 1 0;hear 2 3;hear 2 0;hear 2 1;");
        due("1 and 2 are done", y.told(8), 6);
        due("three to ask", y.fewest(), 3);
    }

    private static void promise21() {
        due("so now", new SumDispersal().safe(), 0);
        SumDispersal x = forged();
        due("two of 0, 1, 2 must fall", x.safe(), 2);
        work(x, "crash 0;");
        due("one more", x.safe(), 1);
        work(x, "crash 1;");
        due("it has come", x.safe(), 0);
        due("void, too, is an end", skewedForAll().safe(), 2);
        due("one of two", made("group 1 0;", "deal 0;").safe(), 1);
    }

    /** Without trust each is done by what it hears: 0 by vector 1 (12 for both), 1 by vector 0. */
    private static SumDispersal twoFiles() {
        return made("group 3 0;stripes 1;symbol 10;traitor 2;",
            "skew0 0 2;skew0 1 2;skew0 2 2;taint0 0 2;deal0;deal1;say2 3 1;hear0 2;say2 0 1;hear1 2;");
    }

    private static void promise22() {
        due("none", new SumDispersal().unlike(), 0);
        due("one", forged().unlike(), 1);
        due("void", skewedForAll().unlike(), 1);
        SumDispersal x = twoFiles();
        due("0 is done by 3", x.member(0, 4), 3);
        due("1 is done by 0", x.member(1, 4), 0);
        due("file(1, 0)", x.file(1, 0), 12);
        due("file(2, 0)", x.file(2, 0), 10);
        due("the lesser vector", x.fetch(3, 1), 0);
        due("two", x.unlike(), 2);
        due("both must fall", x.safe(), 2);
        SumDispersal y = made("group 3 0;stripes 1;symbol 10;traitor 2;",
            "skew0 1 2;deal0;deal1;say2 1 1;hear0 2;say2 0 1;hear1 2;");
        due("void and found", y.unlike(), 2);
    }

    private static void promise23() {
        SumDispersal x = new SumDispersal();
        due("all sets", x.fits(0), 16);
        due("the least", x.fits(1), 0);
        book(x, "0 3;");
        due("three or more reach all", x.fits(0), 5);
        due("the first", x.fits(1), 7);
        book(x, "0 1;1 0;");
        // {0}, {0, 2}, {0, 3}: with {0, 2, 3} all are done.
        due("few", x.fits(0), 3);
        due("first", x.fits(1), 1);
        book(x, "0 2;");
        due("none", x.fits(0), 0);
        due("no first", x.fits(1), -1);
        work(x, "crash 3;deal 1;");
        x.book(0);
        due("0 and 2 alone", x.fits(0), 4);
        book(x, "2 1;");
        due("with 2, without 0", x.fits(1), 4);
        due("nothing stays", x.told(6), 2);
        refused("fits(2)", ARGUMENT, () -> x.fits(2));
        refused("fits(-1)", ARGUMENT, () -> x.fits(-1));
    }

    private static void promise24() {
        SumDispersal x = new SumDispersal();
        due("alike all: the first", x.look(0), 0);
        due("seven left", x.look(1), 7);
        work(x, "crash 0;");
        // 0 is down and never dealt to: its stage tells nothing; 8 sets, of {1, 2, 3} one reaches all.
        due("look(0)", x.look(0), 1);
        due("look(1)", x.look(1), 4);
        book(x, "1 0;2 0;");
        due("3 parts them", x.look(0), 3);
        due("one left", x.look(1), 1);
        book(x, "0 2;");
        due("none is right: the first without a line", x.look(0), 1);
        due("none left", x.look(1), 0);
        book(x, "0 0;1 0;2 0;3 0;");
        due("all in lines", x.look(0), -1);
        due("all in lines, 1", x.look(1), -1);
        refused("look(2)", ARGUMENT, () -> x.look(2));
        refused("look(-1)", ARGUMENT, () -> x.look(-1));
    }

    private static void promise25() {
        SumDispersal x = made("group 1 0;stripes 3;symbol 7;symbol 5;symbol 1;", "deal 0;");
        due("by 97", x.sumBy(0, 97), 7 + 485 + 9409);
        due("by 1", x.sumBy(0, 1), 13);
        due("by 46,335", x.sumBy(0, 46335), 7 + 5 * 46335 + 46335 * 46335);
        due("the greatest", x.sumBy(0, 46338), 7 + 5 * 46338 + 46338 * 46338);
        refused("the sum is beyond", ARITHMETIC, () -> x.sumBy(0, 46339));
        refused("a power is beyond", ARITHMETIC, () -> x.sumBy(0, 46341));
        refused("sumBy(0, 0)", ARGUMENT, () -> x.sumBy(0, 0));
        refused("sumBy(0, 100000)", ARGUMENT, () -> x.sumBy(0, 100_000));
        refused("sumBy(1, 0)", NO_SUCH, () -> x.sumBy(1, 0));
        SumDispersal y = made("group 1 0;stripes 3;symbol 7;", "deal 0;");
        refused("a power is beyond, though of 0", ARITHMETIC, () -> y.sumBy(0, 46341));
        due("power of 46,340", y.sumBy(0, 46340), 7);
        SumDispersal z = made("group 1 0;stripes 3;symbol 0;symbol 0;symbol 2;", "deal 0;");
        refused("a product is beyond", ARITHMETIC, () -> z.sumBy(0, 32768));
        due("a product at 32,767", z.sumBy(0, 32767), 2 * 32767 * 32767);
        SumDispersal edge = made("group 1 0;stripes 3;symbol 17;symbol 12;symbol 2;traitor 0;", "deal 0;");
        due("just 32 bits", edge.sumBy(0, 32765), Integer.MAX_VALUE);
        work(edge, "forge 0 0 1;");
        refused("one beyond", ARITHMETIC, () -> edge.sumBy(0, 32765));
        SumDispersal two = made(FOUR, "deal 3;");
        due("no third symbol, no third power", two.sumBy(3, 99_999), 18 + 29 * 99_999);
        refused("no fragment", NULL, () -> two.sumBy(0, 97));
        refused("no base ahead of no fragment", ARGUMENT, () -> two.sumBy(0, 0));
    }

    private static void promise26() {
        SumDispersal x = made(FOUR + "traitor 3;", "deal 3;deal 1;");
        due("shelve(3, 0, 6)", x.shelve(3, 0, 6), 1);
        work(x, "forge 3 0 1;");
        due("a copy", x.shelf(6), 2831);
        refused("rubble", STORE, () -> x.shelve(0, 1, 6));
        due("it stays", x.shelf(6), 2831);
        due("nothing of 0", x.shelve(0, 0, 6), 1);
        due("nothing is there", x.shelf(6), -1);
        refused("shelve(4, 2, 9)", NO_SUCH, () -> x.shelve(4, 2, 9));
        refused("shelve(3, 2, 9)", ARGUMENT, () -> x.shelve(3, 2, 9));
        refused("shelve(3, -1, 0)", ARGUMENT, () -> x.shelve(3, -1, 0));
        refused("shelve(3, 1, 7)", INDEX, () -> x.shelve(3, 1, 7));
        refused("shelve(3, 0, -1)", INDEX, () -> x.shelve(3, 0, -1));
        x.shelve(1, 0, 0);
        x.image();
        x.undo();
        due("no work keeps it", x.shelf(0), 1081);
        x.shelve(1, 0, 1);
        x.shelve(2, 0, 0);
        x.restore();
        due("no image keeps it", x.shelf(0), -1);
    }

    private static void promise27() {
        SumDispersal x = made(FOUR, "deal 0;deal 1;");
        due("nothing at first", x.shelf(0), -1);
        x.shelve(0, 0, 0);
        x.shelve(1, 0, 1);
        x.shelve(1, 0, 6);
        due("shelf(0)", x.shelf(0), 206);
        due("shelf(1)", x.shelf(1), 1081);
        due("shelf(6)", x.shelf(6), 1081);
        due("shelf(5)", x.shelf(5), -1);
        refused("shelf(7)", INDEX, () -> x.shelf(7));
        refused("shelf(-1)", INDEX, () -> x.shelf(-1));
    }

    private static void promise28() {
        SumDispersal x = made("group 7 2;stripes 2;symbol 1;symbol 2;symbol 3;symbol 4;symbol 5;symbol 6;symbol 7;", "taint 0 0 1;");
        due("coded(0, 0)", x.coded(0, 0), 1);
        due("coded(1, 0)", x.coded(1, 0), 6);
        due("coded(10, 1)", x.coded(10, 1), 654 % 97);
        due("coded(96, 1)", x.coded(96, 1), 4 - 5 + 6);
        refused("coded(97, 0)", ARGUMENT, () -> x.coded(97, 0));
        refused("coded(-1, 0)", ARGUMENT, () -> x.coded(-1, 0));
        refused("coded(0, 2)", ARGUMENT, () -> x.coded(0, 2));
        refused("coded(0, -1)", ARGUMENT, () -> x.coded(0, -1));
        due("K of 1", made("group 1 0;symbol 3;symbol 4;").coded(50, 1), 4);
    }

    private static void promise29() {
        SumDispersal x = made(FOUR + "traitor 3;", "skew 3 0 1;deal 0;deal 1;say 3 0 0;say 3 1 0;say 3 0 1;");
        due("echo of 0", x.sayers(0, 0), 3);
        due("echo of 1, said last", x.sayers(1, 0), 8);
        due("ready of 0", x.sayers(0, 1), 8);
        due("ready of 1", x.sayers(1, 1), 0);
        due("done", x.sayers(0, 2), 0);
        due("done by 0", forged().sayers(0, 2), 7);
        refused("sayers(2, 0)", NO_SUCH, () -> x.sayers(2, 0));
        refused("sayers(-1, 9)", NO_SUCH, () -> x.sayers(-1, 9));
        refused("sayers(0, 3)", ARGUMENT, () -> x.sayers(0, 3));
        refused("sayers(0, -1)", ARGUMENT, () -> x.sayers(0, -1));
    }

    private static int smooth(SumDispersal x, int members) {
        return x.smooth(members) ? 1 : 0;
    }

    private static void promise30() {
        SumDispersal x = made(FOUR + "traitor 3;", "deal 0;deal 1;deal 3;forge 3 1 1;crash 0;");
        due("none", smooth(x, 0), 1);
        due("two of K 2", smooth(x, 9), 1);
        due("one without a fragment does not count", smooth(x, 13), 1);
        due("three, one forged in stripe 1", smooth(x, 11), 0);
        work(x, "forge 3 1 96;");
        due("forged back", smooth(x, 15), 1);
        refused("smooth(16)", ARGUMENT, () -> smooth(x, 16));
        refused("smooth(-1)", ARGUMENT, () -> smooth(x, -1));
        SumDispersal y = made("group 7 2;stripes 1;symbol 1;symbol 2;symbol 3;traitor 6;",
            "deal 6;deal 0;deal 1;deal 2;deal 3;forge 6 0 5;");
        due("three of K 3", smooth(y, 67), 1);
        due("four", smooth(y, 15), 1);
        due("four, one forged", smooth(y, 71), 0);
    }

    private static void promise31() {
        SumDispersal x = made(FOUR + "traitor 3;", DEAL_FOUR + "forge 3 0 5;");
        due("3 is", x.liar(15), 3);
        due("of three any is: the first", x.liar(11), 0);
        due("they are smooth", x.liar(7), -1);
        due("of none", x.liar(0), -1);
        refused("liar(16)", ARGUMENT, () -> x.liar(16));
        refused("liar(-1)", ARGUMENT, () -> x.liar(-1));
        SumDispersal y = made("group 7 1;symbol 3;symbol 4;traitor 0;traitor 1;",
            "deal 0;deal 1;deal 2;deal 3;deal 4;forge 0 0 5;forge 1 0 9;");
        due("two lie: none alone", y.liar(31), -1);
        due("without the other", y.liar(30), 1);
    }

    private static void promise32() {
        SumDispersal x = made(FOUR + "traitor 3;traitor 1;", "skew 3 0 1;deal 0;say 3 1 0;say 1 1 0;");
        due("its own", x.lacks(0), 2);
        work(x, "hear 0 3;hear 0 1;");
        due("two of vector 1 are most", x.lacks(0), 1);
        due("a traitor's own", x.lacks(3), 2);
        due("nothing heard", x.lacks(2), 3);
        work(x, "say 3 0 1;");
        due("it said ready", x.lacks(3), 0);
        SumDispersal y = made(FOUR, DEAL_FOUR + HEAR_FOUR);
        due("they are", y.lacks(1), 0);
        SumDispersal z = made("group 4 1;traitor 0;", "deal 1;deal 2;deal 3;hear 0 1;hear 0 2;hear 0 3;");
        due("a traitor heard enough", z.lacks(0), 0);
        refused("lacks(4)", NO_SUCH, () -> x.lacks(4));
        refused("lacks(-1)", NO_SUCH, () -> x.lacks(-1));
    }

    private static void promise33() {
        SumDispersal x = made(FOUR, DEAL_FOUR);
        int[] rounds = {2, 2, 1, 1};
        for (int m = 0; m < 4; m++) {
            due("rounds(" + m + ")", x.rounds(m), rounds[m]);
        }
        due("now", made("group 1 0;", "deal 0;").rounds(0), 0);
        due("behind none", new SumDispersal().rounds(0), -1);
        due("traitors are not", forged().rounds(3), -1);
        refused("rounds(4)", NO_SUCH, () -> x.rounds(4));
        refused("rounds(-1)", NO_SUCH, () -> x.rounds(-1));
    }

    private static void promise34() {
        SumDispersal x = made(FOUR + "traitor 0;", DEAL_FOUR);
        // Without the traitor three are done; without another one two are ready, none done.
        due("doom(0)", x.doom(0), 1);
        due("doom(1)", x.doom(1), 0);
        due("nothing stays", x.told(4), 15);
        SumDispersal y = made(FOUR, DEAL_FOUR);
        due("alike: the first", y.doom(0), 0);
        due("three", y.doom(1), 3);
        SumDispersal z = skewedForAll();
        due("those not up count, too", z.doom(1), 4);
        work(z, "crash 0;crash 1;crash 2;");
        due("the last one", z.doom(0), 3);
        work(z, "crash 3;");
        due("nobody is up", z.doom(0), -1);
        due("nobody is up, 1", z.doom(1), -1);
        refused("doom(2)", ARGUMENT, () -> z.doom(2));
        refused("doom(-1)", ARGUMENT, () -> z.doom(-1));
    }

    private static void promise35() {
        SumDispersal x = made(FOUR + "traitor 3;", "deal 0;deal 3;taint 0 0 1;taint 0 1 1;taint 1 0 1;forge 3 1 4;");
        due("two", x.tainted(0), 2);
        due("none has it", x.tainted(1), -1);
        due("forged", x.tainted(3), 1);
        work(x, "taint 0 0 96;taint 3 1 4;");
        due("one left", x.tainted(0), 1);
        due("alike again", x.tainted(3), 0);
        refused("tainted(4)", NO_SUCH, () -> x.tainted(4));
        refused("tainted(-1)", NO_SUCH, () -> x.tainted(-1));
    }

    private static int news(SumDispersal x, int member, int other) {
        return x.news(member, other) ? 1 : 0;
    }

    private static void promise36() {
        SumDispersal x = made(FOUR + "traitor 3;", "deal 0;");
        due("news(1, 0)", news(x, 1, 0), 1);
        due("news(0, 1)", news(x, 0, 1), 0);
        due("itself", news(x, 0, 0), 0);
        due("a traitor can hear", news(x, 3, 0), 1);
        work(x, "hear 1 0;crash 2;crash 0;");
        due("heard", news(x, 1, 0), 0);
        due("not up", news(x, 2, 0), 0);
        due("of one not up", news(x, 3, 0), 1);
        work(x, "say 3 0 1;");
        due("ready is news", news(x, 1, 3), 1);
        refused("news(4, 0)", NO_SUCH, () -> news(x, 4, 0));
        refused("news(0, 4)", NO_SUCH, () -> news(x, 0, 4));
        refused("news(-1, 0)", NO_SUCH, () -> news(x, -1, 0));
    }

    private static void promise37() {
        SumDispersal x = made("group 7 1;symbol 3;symbol 4;traitor 0;traitor 1;",
            "deal 0;deal 1;deal 2;deal 3;deal 4;forge 0 0 5;forge 1 0 9;");
        due("two", x.loose(31), 2);
        due("two of four", x.loose(15), 2);
        due("one", x.loose(29), 1);
        due("none", x.loose(28), 0);
        due("K and fewer", x.loose(3), 0);
        due("those without fragments", x.loose(99), 0);
        due("of none", x.loose(0), 0);
        refused("loose(128)", ARGUMENT, () -> x.loose(128));
        refused("loose(-1)", ARGUMENT, () -> x.loose(-1));
    }

    private static void promise38() {
        SumDispersal x = made(FOUR, DEAL_FOUR);
        due("2 and 3 are: 2", x.first(0), 2);
        due("behind one turn", x.first(1), 1);
        work(x, HEAR_FOUR);
        due("now", x.first(1), 0);
        due("2 is now", x.first(0), 2);
        SumDispersal y = new SumDispersal();
        due("none", y.first(0), -1);
        due("none, 1", y.first(1), -1);
        refused("first(2)", ARGUMENT, () -> y.first(2));
        refused("first(-1)", ARGUMENT, () -> y.first(-1));
    }

    private static void promise39() {
        SumDispersal x = made(FOUR, "deal 0;crash 3;");
        due("two more", x.given(15, 1), 2);
        due("three echoes: 0, 1, 2 are done", x.given(15, 0), 7);
        due("one more", x.given(2, 0), 0);
        due("none", x.given(9, 1), 0);
        due("nothing stays", x.told(6), 1);
        work(x, "taint 1 0 1;");
        due("a wrong sum can be dealt", x.given(6, 1), 2);
        due("but says no echo", x.given(6, 0), 0);
        refused("given(16, 0)", ARGUMENT, () -> x.given(16, 0));
        refused("given(-1, 0)", ARGUMENT, () -> x.given(-1, 0));
        refused("given(1, 2)", ARGUMENT, () -> x.given(1, 2));
        refused("given(1, -1)", ARGUMENT, () -> x.given(1, -1));
    }

    private static void promise40() {
        // Drawn by seed 1: 16838 (by 8: 6), 5758 (by 16: 14), 10113 (by 4: 1; by 8: 1), 17515 ..
        SumDispersal x = new SumDispersal();
        due("14 is below 15: 1 falls", x.storm(1, 1, 15, 1), 13);
        due("not below 14", x.storm(1, 1, 14, 1), 15);
        due("nothing stays", x.told(4), 15);
        // .. then: deal 3 (17515 by 4); 31051: hear 3 2; 7419: hear 0 2; 2749: hear 3 0.
        SumDispersal y = made("group 1 0;symbol 5;");
        due("one time", y.storm(1, 1, 14, 0), 0);
        due("the deal", y.storm(1, 2, 14, 0), 1);
        due("found", y.storm(1, 2, 14, 3), 2);
        due("too few", y.storm(1, 1, 14, 3), 0);
        due("ends", y.storm(1, 2, 14, 2), 1);
        due("it fell ahead", y.storm(1, 2, 16, 1), 0);
        due("no deal", y.storm(1, 2, 16, 2), 0);
        // Dealt to 0 ahead; 1 and 2 are dealt to by the storm: three echoes, heard only at the end.
        SumDispersal z = made(FOUR, DEAL_FOUR);
        due("not yet", z.storm(1, 2, 14, 0), 0);
        due("if all hear all", z.storm(1, 2, 14, 2), 15);
        // Drawn by seed 5: 18655 (by 8: 7), 8457, 10616, 31877 (by 96: 5): taint 0 0 6; 10193: deal 0.
        SumDispersal w = made("group 1 0;stripes 1;symbol 5;");
        due("a tainted fragment has another sum", w.storm(5, 2, 0, 0), 0);
        work(w, "taint 0 0 91;");
        due("6 more makes it right again", w.storm(5, 2, 0, 0), 1);
        refused("many 0", ARGUMENT, () -> x.storm(1, 0, 0, 0));
        refused("many 97", ARGUMENT, () -> x.storm(1, 97, 0, 0));
        refused("q -1", ARGUMENT, () -> x.storm(1, 1, -1, 0));
        refused("q 17", ARGUMENT, () -> x.storm(1, 1, 17, 0));
        refused("what 4", ARGUMENT, () -> x.storm(1, 1, 0, 4));
        refused("what -1", ARGUMENT, () -> x.storm(1, 1, 0, -1));
        due("96 times, a negative seed", x.storm(-5, 96, 16, 1) & ~15, 0);
    }

    private static void promise41() {
        SumDispersal x = made("group 1 0;symbol 5;");
        // By seeds -2 to 2, of two times each: done by all but the last.
        int[] done = {1, 1, 1, 1, 0};
        for (int i = 0; i < 5; i++) {
            due("storm of seed " + (i - 2), x.storm(i - 2, 2, 4, 0), done[i]);
        }
        due("fewest", x.span(-2, 5, 2, 4, 0, 0), 0);
        due("most", x.span(-2, 5, 2, 4, 1, 0), 1);
        due("by how many", x.span(-2, 5, 2, 4, 2, 0), 4);
        due("fewest of four", x.span(-2, 4, 2, 4, 0, 0), 1);
        due("most of the last", x.span(2, 1, 2, 4, 1, 0), 0);
        due("one seed", x.span(1, 1, 2, 14, 2, 0), 1);
        due("one seed, fewest", x.span(1, 1, 2, 14, 0, 0), 1);
        due("behind the greatest seed comes the least",
            x.span(Integer.MAX_VALUE, 2, 3, 4, 2, 0), x.storm(Integer.MAX_VALUE, 3, 4, 0) + x.storm(Integer.MIN_VALUE, 3, 4, 0));
        refused("no member, for 0", NO_SUCH, () -> x.span(1, 0, 0, 0, 0, 1));
        refused("no member, for 1", NO_SUCH, () -> x.span(1, 1, 1, 0, 1, -1));
        refused("seeds 0", ARGUMENT, () -> x.span(1, 0, 1, 0, 0, 0));
        refused("seeds 6", ARGUMENT, () -> x.span(1, 6, 1, 0, 0, 0));
        refused("many 0", ARGUMENT, () -> x.span(1, 1, 0, 0, 0, 0));
        refused("many 97", ARGUMENT, () -> x.span(1, 1, 97, 0, 0, 0));
        refused("q 17", ARGUMENT, () -> x.span(1, 1, 1, 17, 0, 0));
        refused("what 3", ARGUMENT, () -> x.span(1, 1, 1, 0, 3, 0));
        refused("what -1", ARGUMENT, () -> x.span(1, 1, 1, 0, -1, 0));
    }

    private static void promise42() {
        SumDispersal x = made(FOUR, "deal 0;");
        due("one", x.image(), 1);
        work(x, "deal 1;");
        due("two", x.image(), 2);
        x.undo();
        x.undo();
        due("three", x.image(), 3);
        due("no fourth", x.image(), -1);
        due("count(0)", x.count(0), 3);
        work(x, "crash 3;");
        due("the third", x.restore(), 2);
        due("no works then", x.count(2), 0);
        due("up", x.told(4), 15);
        due("the second", x.restore(), 1);
        due("two works then", x.count(2), 2);
        due("dealt to", x.told(6), 3);
        due("they can be undone", x.undo(), 1);
        due("dealt to", x.told(6), 1);
        due("and the first", x.undo(), 0);
        due("dealt to nobody", x.told(6), 0);
    }

    private static void promise43() {
        SumDispersal x = made("group 4 1;stripes 1;symbol 10;symbol 20;traitor 3;", "deal 3;skew 0 0 1;taint 1 0 5;");
        due("none", x.restore(), -1);
        x.image();
        work(x, "skew 1 0 2;deal 1;deal 2;forge 3 0 1;say 3 1 0;hear 2 3;crash 0;deal 1;");
        book(x, "0 0;");
        due("told(10)", x.told(10), 1);
        due("none left", x.restore(), 0);
        due("told(10) behind it", x.told(10), 0);
        due("up", x.told(4), 15);
        due("dealt to", x.told(6), 8);
        due("vectors", x.told(3), 2);
        due("symbol(3, 0)", x.symbol(3, 0), 90);
        due("dealer(1, 0)", x.dealer(1, 0), 55);
        due("heard(2, 3, 0)", x.heard(2, 3, 0), -1);
        due("member(3, 2)", x.member(3, 2), -1);
        due("skewed(1)", x.skewed(1), 0);
        due("the book stays", x.told(9), 1);
        due("works", x.count(2), 1);
        due("it is gone", x.restore(), -1);
    }

    private static void promise44() {
        SumDispersal x = made(FOUR, "deal 0;");
        refused("member(9, 9)", NO_SUCH, () -> x.member(9, 9));
        refused("told(99)", ARGUMENT, () -> x.told(99));
        refused("work(1)", ARGUMENT, () -> x.work(1));
        refused("symbol(1, 9)", NULL, () -> x.symbol(1, 9));
        refused("sumBy(1, 1)", NULL, () -> x.sumBy(1, 1));
        refused("sumBy(2, 1)", NULL, () -> x.sumBy(2, 1));
        for (int i = 0; i < 4; i++) {
            refused("shelf(7)", INDEX, () -> x.shelf(7));
        }
        for (int i = 0; i < 5; i++) {
            refused("shelve(0, 1, 0)", STORE, () -> x.shelve(0, 1, 0));
        }
        x.image();
        x.restore();
        work(x, "hear 9 9;");
        int[] counts = {1, 2, 3, 4, 0, 5};
        for (int what = 0; what < 6; what++) {
            due("status(" + what + ")", x.status(what), counts[what]);
        }
        due("status(6)", x.status(6), -1);
        due("status(-1)", x.status(-1), -1);
        dispersal(x, "group 1 0;stripes 3;");
        work(x, "deal 0;");
        refused("sumBy(0, 99999)", ARITHMETIC, () -> x.sumBy(0, 99_999));
        due("status(4)", x.status(4), 1);
        due("status(5)", x.status(5), 5);
    }

    private static void promise45() {
        SumDispersal x = made(FOUR, "deal 0;", "");
        x.image();
        x.feed(0, 0, 0, 0, 0);
        due("images", x.count(0), 1);
        due("bytes", x.count(1), 20);
        due("works", x.count(2), 2);
        due("count(3)", x.count(3), -1);
        due("count(-1)", x.count(-1), -1);
        x.undo();
        due("works", x.count(2), 1);
        x.restore();
        due("images", x.count(0), 0);
        due("works", x.count(2), 2);
        due("bytes stay", x.count(1), 20);
    }

    private static void firstPromises() {
        Runnable[] all = {PromisesTest::promise1, PromisesTest::promise2, PromisesTest::promise3, PromisesTest::promise4,
            PromisesTest::promise5, PromisesTest::promise6, PromisesTest::promise7, PromisesTest::promise8,
            PromisesTest::promise9, PromisesTest::promise10, PromisesTest::promise11, PromisesTest::promise12,
            PromisesTest::promise13, PromisesTest::promise14, PromisesTest::promise15, PromisesTest::promise16,
            PromisesTest::promise17, PromisesTest::promise18, PromisesTest::promise19, PromisesTest::promise20,
            PromisesTest::promise21, PromisesTest::promise22, PromisesTest::promise23, PromisesTest::promise24,
            PromisesTest::promise25, PromisesTest::promise26, PromisesTest::promise27, PromisesTest::promise28,
            PromisesTest::promise29, PromisesTest::promise30, PromisesTest::promise31, PromisesTest::promise32,
            PromisesTest::promise33, PromisesTest::promise34, PromisesTest::promise35, PromisesTest::promise36,
            PromisesTest::promise37, PromisesTest::promise38, PromisesTest::promise39, PromisesTest::promise40,
            PromisesTest::promise41, PromisesTest::promise42, PromisesTest::promise43, PromisesTest::promise44,
            PromisesTest::promise45};
        for (Runnable one : all) {
            promise++;
            one.run();
        }
    }

    public static void main(String[] args) {
        firstPromises();
        System.out.println(promise + " promises, " + asked + " answers looked at, " + wrong + " wrong");
        if (wrong != 0) {
            System.exit(1);
        }
    }
}
