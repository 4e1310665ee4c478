/** The passage marked 2: the file, its FRAGMENTS and VECTORS, what MEMBERS say, and the STEPS. */
final class StepSentences extends Sheet {
    private static final int[] FILE = {95, 96, 0, 1, 50, 96, 96, 96, 96};

    static void run() {
        coding();
        vectors();
        atFirst();
        saying();
        order();
        twoHundred();
        deals();
        dealsActs();
        hears();
        acts();
        actsByNumbers();
        taints();
        skews();
        says();
        forges();
        crashes();
    }

    private static String told(int n, int t, int s, int... symbols) {
        StringBuilder text = new StringBuilder("group " + n + " " + t + ";stripes " + s + ";");
        for (int v : symbols) {
            text.append("symbol ").append(v).append(';');
        }
        return text.toString();
    }

    private static int left(int k, int stripe, int x) {
        int value = 0;
        int power = 1;
        for (int i = 0; i < k; i++) {
            value += FILE[k * stripe + i] * power;
            power *= x;
        }
        return value % 97;
    }

    private static void coding() {
        sentence("K is T and 1.");
        for (int x = 0; x <= 96; x += 12) {
            due("T 0 at " + x, made(told(7, 0, 1, 1, 2, 3)).coded(x, 0), 1);
            due("T 1 at " + x, made(told(7, 1, 1, 1, 2, 3)).coded(x, 0), (1 + 2 * x) % 97);
            due("T 2 at " + x, made(told(7, 2, 1, 1, 2, 3)).coded(x, 0), (1 + 2 * x + 3 * x * x) % 97);
        }
        sentence("Stripe j of the file has K symbols, from number K j on, in order: the numbers c0, c1 .. of a polynomial; "
            + "of the FRAGMENT of MEMBER m symbol j is what is left of c0 + c1 (m + 1) + c2 (m + 1)(m + 1) by 97 "
            + "(as far as there are).");
        for (int t = 0; t <= 2; t++) {
            for (int s = 1; s <= 3; s++) {
                SumDispersal x = made(told(7, t, s, FILE));
                for (int m = 0; m < 7; m++) {
                    for (int j = 0; j < s; j++) {
                        due("T " + t + ", S " + s + ": dealer(" + m + ", " + j + ")", x.dealer(m, j), left(t + 1, j, m + 1));
                    }
                }
            }
        }
        SumDispersal x = made(told(4, 1, 2, 95, 1, 1, 96));
        int[] first = {96, 0, 1, 2};
        int[] second = {0, 96, 95, 94};
        for (int m = 0; m < 4; m++) {
            due("96, 97, 98, 99: what is left, " + m, x.dealer(m, 0), first[m]);
            due("97, 193 ..: what is left, " + m, x.dealer(m, 1), second[m]);
        }
        sentence("SUM of a FRAGMENT: symbol 0, and 97 times symbol 1, and 9,409 times symbol 2 (as far as there are).");
        due("one symbol", made(told(1, 0, 1, 5, 6, 7)).vector(0, 0), 5);
        due("two", made(told(1, 0, 2, 5, 6, 7)).vector(0, 0), 5 + 6 * 97);
        due("three", made(told(1, 0, 3, 5, 6, 7)).vector(0, 0), 5 + 6 * 97 + 7 * 9409);
        due("the least", made(told(1, 0, 3, 0, 0, 0)).vector(0, 0), 0);
        due("the greatest", made(told(1, 0, 3, 96, 96, 96)).vector(0, 0), 912_672);
        due("the greatest of two", made(told(1, 0, 2, 96, 96)).vector(0, 0), 9_408);
    }

    private static void vectors() {
        sentence("A VECTOR has N SUMS, one for each MEMBER; VECTOR 0 has those of the FRAGMENTS of the file.");
        for (int n = 1; n <= 7; n++) {
            int beyond = n;
            SumDispersal x = made(told(n, (n - 1) / 3, 3, FILE), "taint 0 0 1;");
            for (int m = 0; m < n; m++) {
                int k = (n - 1) / 3 + 1;
                int sum = left(k, 0, m + 1) + 97 * left(k, 1, m + 1) + 9409 * left(k, 2, m + 1);
                due("sum of " + m + " of " + n, x.vector(0, m), sum);
            }
            refused(x, NO_SUCH, "one beyond of " + n, o -> o.vector(0, beyond));
        }
        sentence("Other VECTORS are numbered from 1 on, as skews make them (8 in all at most).");
        SumDispersal x = made(told(2, 0, 1, 10));
        for (int v = 1; v <= 7; v++) {
            int number = v;
            refused(x, NO_SUCH, "none yet", o -> o.vector(number, 0));
            due("a skew", work(x, "skew 0 0 " + v + ";"), 1);
            due("makes vector " + v, x.skewed(0), v);
            due("there are", x.told(3), v + 1);
            due("its sum", x.vector(v, 0), 10 + v * (v + 1) / 2);
            due("the other sum", x.vector(v, 1), 10);
        }
        due("no ninth", work(x, "skew 0 0 1;"), 0);
        due("8 in all", x.told(3), 8);
        refused(x, NO_SUCH, "vector(8, 0)", o -> o.vector(8, 0));
        sentence("The DEALER has a FRAGMENT and a VECTOR's number for each MEMBER: at first that of the file, and 0.");
        SumDispersal y = made(told(7, 2, 3, FILE));
        for (int m = 0; m < 7; m++) {
            due("skewed(" + m + ")", y.skewed(m), 0);
            for (int j = 0; j < 3; j++) {
                due("dealer(" + m + ", " + j + ")", y.dealer(m, j), y.coded(m + 1, j));
            }
        }
        due("one vector", y.told(3), 1);
    }

    private static void atFirst() {
        sentence("All MEMBERS are UP at first; nobody was dealt to, has a FRAGMENT, has SAID, HEARD anything.");
        for (int n = 1; n <= 7; n++) {
            SumDispersal x = made("group " + n + " 0;traitor 0;");
            due("up of " + n, x.told(4), (1 << n) - 1);
            for (int what = 6; what <= 8; what++) {
                due("told(" + what + ") of " + n, x.told(what), 0);
            }
            for (int m = 0; m < n; m++) {
                int none = m;
                due("stage of " + m, x.member(m, 0), 0);
                for (int what = 1; what <= 4; what++) {
                    due("member(" + m + ", " + what + ")", x.member(m, what), -1);
                }
                refused(x, NULL, "symbol(" + m + ", 0)", o -> o.symbol(none, 0));
                for (int other = 0; other < n; other++) {
                    due("heard(" + m + ", " + other + ", 0)", x.heard(m, other, 0), -1);
                    due("heard(" + m + ", " + other + ", 1)", x.heard(m, other, 1), -1);
                }
            }
        }
    }

    private static void saying() {
        sentence("A MEMBER says ECHO of a VECTOR, READY of a VECTOR, and is DONE by one; each once (a traitor: what it says last).");
        String six = "group 7 2;traitor 1;traitor 2;traitor 3;traitor 4;traitor 5;traitor 6;";
        SumDispersal x = made(six, "skew 6 0 1;deal 0;say1 1 1;say2 1 1;say3 1 1;hear0 1;hear0 2;hear0 3;");
        due("ready of 1", x.member(0, 3), 1);
        due("not done by four", x.member(0, 4), -1);
        work(x, "say1 0 1;say2 0 1;say3 0 1;say4 0 1;say5 0 1;hear0 1;hear0 2;hear0 3;hear0 4;");
        due("four readies of 0: not done", x.member(0, 4), -1);
        work(x, "hear0 5;");
        due("five: done by 0", x.member(0, 4), 0);
        due("ready is said once", x.member(0, 3), 1);
        work(x, "say1 1 1;say2 1 1;say3 1 1;say4 1 1;say5 1 1;hear0 1;hear0 2;hear0 3;hear0 4;hear0 5;");
        due("six of 1 heard", x.voices(0, 1, 1), 6);
        due("it is done once", x.member(0, 4), 0);
        due("echo is said once", work(x, "skew 0 1 5;deal 0;"), 1);
        due("echo stays", x.member(0, 2), 0);
        SumDispersal y = made("traitor 1;", "skew 0 0 1;say1 0 0;say1 0 1;say1 1 0;");
        due("a traitor's last echo", y.member(1, 2), 1);
        due("a traitor's last ready", y.member(1, 3), 0);
        work(y, "say1 1 1;say1 0 0;");
        due("a traitor's last echo again", y.member(1, 2), 0);
        due("a traitor's last ready again", y.member(1, 3), 1);
        sentence("It HEARS itself at once.");
        SumDispersal z = made("group 1 0;", "deal 0;");
        due("its echo", z.heard(0, 0, 0), 0);
        due("its ready", z.heard(0, 0, 1), 0);
        due("a traitor's echo", y.heard(1, 1, 0), 0);
        due("a traitor's ready", y.heard(1, 1, 1), 1);
        due("others do not", y.heard(0, 1, 0), -1);
        sentence("STAGE: 3 it is DONE, else 2 it said READY, else 1 ECHO, else 0.");
        due("done", z.member(0, 0), 3);
        due("nothing", made("", "taint 0 0 1;deal 0;").member(0, 0), 0);
        due("echo", made("", "deal 0;").member(0, 0), 1);
        due("ready and echo", made("", "deal 0;deal 1;deal 2;hear0 1;hear0 2;").member(0, 0), 2);
        due("ready without echo", made("", "deal 1;deal 2;deal 3;hear0 1;hear0 2;hear0 3;").member(0, 0), 2);
        due("a traitor's echo", made("traitor 0;", "say 0 0 0;").member(0, 0), 1);
        due("a traitor's ready", made("traitor 0;", "say 0 0 1;").member(0, 0), 2);
        due("a traitor's both", made("traitor 0;", "say 0 0 1;say 0 0 0;").member(0, 0), 2);
        SumDispersal w = made("group 2 0;traitor 1;", "say 1 0 1;hear 0 1;");
        due("done without echo", w.member(0, 0), 3);
        due("no echo", w.member(0, 2), -1);
    }

    private static void order() {
        sentence("STEPS are done in order; one that can't be done is REFUSED, and changes nothing;");
        due("taint ahead of deal", made("", "taint 0 0 1;deal 0;").told(7), 0);
        due("deal ahead of taint", made("", "deal 0;taint 0 0 1;").told(7), 1);
        due("within again", made("", "again 2[deal 0;crash 0;];deal 1;").told(6), 3);
        String ahead = "deal 0;deal 3;say 3 0 0;hear 1 3;crash 2;skew 0 0 1;";
        for (String step : new String[] {"deal 0;", "deal 2;", "deal 3;", "hear 0 0;", "hear 2 0;", "hear 1 3;", "hear 0 1;", "say 0 0 0;",
                "say 3 2 0;", "say 3 7 1;", "say 3 0 0;", "forge 0 0 1;", "forge 1 0 1;", "crash 2;"}) {
            SumDispersal x = made(FOUR + "traitor 3;", ahead);
            SumDispersal twin = made(FOUR + "traitor 3;", ahead, "");
            due("work of " + step, work(x, step), 0);
            due("refused by " + step, x.told(10), 1);
            dueText("all behind " + step, state(x), state(twin));
        }
        SumDispersal full = made(FOUR, "again 7[skew 0 0 1;];");
        String then = state(full);
        due("skew beyond 8", work(full, "skew 0 0 1;skew 1 1 1;"), 0);
        due("refused", full.told(10), 2);
        dueText("all behind them", state(full), then);
    }

    private static void twoHundred() {
        sentence("200 STEPS at most are begun by one WORK (an again, too, each time it is come to; REFUSED ones, too), "
            + "what would come behind is left out.");
        String most = "again60[taint0 0 1;];".repeat(3);
        begun(most + "again14[taint0 0 1;];crash0;", 180 + 14 + 1, 0, 14);
        begun(most + "again15[taint0 0 1;];crash0;", 180 + 15 + 1, 0, 14);
        begun(most + "again16[taint0 0 1;];crash0;", 180 + 16, 0, 15);
        begun(most + "again17[taint0 0 1;];crash0;", 180 + 16, 0, 15);
        String refused = "again60[hear0 0;];".repeat(3);
        begun(refused + "again15[hear0 0;];crash0;", 1, 195, 14);
        begun(refused + "again16[hear0 0;];crash0;", 0, 196, 15);
        begun(refused + "again60[hear0 0;];crash0;", 0, 196, 15);
        begun("again 49[again0[];again0[];again0[];again0[];];taint0 0 1;taint0 0 1;crash0;", 3, 0, 14);
        begun("again 49[again0[];again0[];again0[];again0[];];again0[];taint0 0 1;crash0;crash 1;", 2, 0, 14);
        begun("again 49[again0[];again0[];again0[];again0[];];again0[];again0[];taint0 0 1;crash0;", 1, 0, 15);
        begun("again 49[again0[];again0[];again0[];again0[];];again0[];again0[];again9[crash0;];", 0, 0, 15);
        begun("again 50[again0[];again0[];again0[];again0[];];crash0;", 0, 0, 15);
        begun("again 60[again 60[taint0 0 1;];];crash0;", 195, 0, 15);
        begun("again 1[again 60[again 60[again 60[again 60[again 60[];];];];];];crash0;", 0, 0, 15);
        SumDispersal x = made("", most + "again60[taint0 0 1;];");
        due("the next work has 200 of its own", work(x, most + "again16[taint0 0 1;];"), 196);
    }

    private static void begun(String text, int done, int refused, int up) {
        SumDispersal x = new SumDispersal();
        due("done by " + text, work(x, text), done);
        due("refused by " + text, x.told(10), refused);
        due("up behind " + text, x.told(4), up);
    }

    private static void deals() {
        sentence("deal (REFUSED, if M is not UP, or was dealt to): M has that VECTOR's number, and a copy of that FRAGMENT, "
            + "as both are then (what is tainted or skewed behind it changes nothing of M's), if its SUM is that of M in the "
            + "VECTOR; else no FRAGMENT;");
        SumDispersal x = made(FOUR + "traitor 3;", "crash 0;taint 1 0 1;deal 1;deal 2;deal 3;");
        due("not up; dealt to: without a fragment, with one, a traitor", work(x, "deal 0;deal 1;deal 2;deal 3;"), 0);
        due("dealt to", x.told(6), 14);
        due("back to the right sum it is dealt to all the same", work(x, "taint 1 0 96;deal 1;"), 1);
        due("with fragments", x.told(7), 12);
        due("not up", x.member(0, 1), -1);
        SumDispersal y = made(FOUR, "skew 2 2 50;taint 2 0 50;deal 2;");
        due("the vector's number", y.member(2, 1), 1);
        due("a copy", y.symbol(2, 0), 66);
        work(y, "taint 2 0 1;taint 2 1 96;skew 2 2 3;skew 2 0 9;");
        due("the dealer's changes", y.dealer(2, 0), 67);
        due("its copy stays", y.symbol(2, 0), 66);
        due("its second symbol stays", y.symbol(2, 1), 20);
        due("the dealer's vector changes", y.skewed(2), 3);
        due("its number stays", y.member(2, 1), 1);
        for (int more = 1; more <= 96; more += 19) {
            SumDispersal z = made(FOUR, "taint 1 1 " + more + ";deal 1;");
            due("a sum " + 97 * more + " off", z.told(7), 0);
            due("it has the vector's number", z.member(1, 1), 0);
            due("it was dealt to", z.told(6), 2);
        }
        due("a sum 1 below that in the vector", made(FOUR, "skew 1 1 1;deal 1;").told(7), 0);
        due("another's sum skewed", made(FOUR, "skew 1 0 1;deal 1;").told(7), 2);
        due("another's fragment tainted", made(FOUR, "taint 0 0 1;deal 1;").told(7), 2);
        due("another's vector skewed", made(FOUR, "skew 0 1 1;deal 1;").told(7), 2);
        due("tainted once around", made(FOUR, "taint 1 0 96;taint 1 0 1;deal 1;").told(7), 2);
    }

    private static void dealsActs() {
        sentence("has it one, and is no traitor, it says ECHO of the VECTOR, and ACTS.");
        SumDispersal x = made(FOUR + "traitor 3;", "skew 2 0 1;skew 3 0 1;taint 1 0 1;" + DEAL_FOUR);
        int[] echoes = {0, -1, 1, -1};
        for (int m = 0; m < 4; m++) {
            due("echo of " + m, x.member(m, 2), echoes[m]);
        }
        due("the traitor has a fragment", x.told(7), 13);
        SumDispersal one = made("group 1 0;", "deal 0;");
        due("its own echo is enough for one: ready", one.member(0, 3), 0);
        due("done", one.member(0, 4), 0);
        SumDispersal late = made("", "deal 1;deal 2;hear0 1;hear0 2;");
        due("two echoes are not enough", late.member(0, 3), -1);
        work(late, "deal 0;");
        due("its own is the third", late.member(0, 3), 0);
        SumDispersal traitor = made("group 1 0;traitor 0;", "deal 0;");
        due("a traitor does not act", traitor.member(0, 0), 0);
    }

    private static void hears() {
        sentence("hear (REFUSED, if B is A, B is not UP, or it would change nothing): what A has SAID last, ECHO and READY, "
            + "B has HEARD of it (what it HEARD of it ahead is forgotten); then B ACTS, if it is no traitor.");
        SumDispersal x = made("traitor 3;traitor 2;", "skew 1 0 1;deal 0;crash 1;say 3 0 0;say 3 1 1;");
        due("itself", work(x, "hear 0 0;"), 0);
        due("a traitor itself", work(x, "hear 3 3;"), 0);
        due("not up", work(x, "hear 1 0;"), 0);
        due("of one that said nothing", work(x, "hear 0 2;hear 0 1;"), 0);
        due("of one that is not up and said nothing", work(x, "hear 2 1;"), 0);
        due("echo and ready at once", work(x, "hear 0 3;"), 1);
        due("echo", x.heard(0, 3, 0), 0);
        due("ready", x.heard(0, 3, 1), 1);
        due("once more", work(x, "hear 0 3;"), 0);
        due("a new echo, then a new ready", work(x, "say 3 1 0;hear 0 3;hear 0 3;say 3 0 1;hear 0 3;hear 0 3;"), 4);
        due("what it heard ahead is forgotten: echo", x.heard(0, 3, 0), 1);
        due("ready", x.heard(0, 3, 1), 0);
        due("voices for echo of 0: its own", x.voices(0, 0, 0), 1);
        due("voices for ready of 1: none", x.voices(0, 1, 1), 0);
        due("said and taken back between", work(x, "say 3 0 0;say 3 1 0;hear 0 3;"), 2);
        due("the last alone", work(x, "say 2 0 0;say 2 1 0;hear 0 2;"), 3);
        due("of 2", x.heard(0, 2, 0), 1);
        SumDispersal y = made("group 2 0;traitor 1;traitor 0;", "say 0 0 1;hear 1 0;");
        due("a traitor hears", y.heard(1, 0, 1), 0);
        due("but does not act", y.member(1, 3), -1);
        SumDispersal z = made("group 2 0;traitor 0;", "say 0 0 1;hear 1 0;");
        due("another acts", z.member(1, 4), 0);
        SumDispersal w = made("", "deal 0;deal 1;deal 2;hear0 1;hear1 0;hear0 2;");
        due("0 is ready", w.member(0, 3), 0);
        due("its ready is news behind its echo", work(w, "hear1 0;"), 1);
        due("heard", w.heard(1, 0, 1), 0);
        due("one ready is not enough", w.member(1, 3), -1);
    }

    private static void acts() {
        sentence("To ACT: as long as anything changes, of each VECTOR v, by numbers: it has not said READY, and has HEARD ECHO "
            + "of v of N less T or more MEMBERS, or READY of v of T and 1 or more: it says READY of v; it is not DONE, and has "
            + "HEARD READY of v of 2 T and 1 or more: it is DONE by v.");
        for (int n = 1; n <= 7; n++) {
            for (int t = 0; 3 * t + 1 <= n; t++) {
                echoesOf(n, t);
                readiesOf(n, t);
            }
        }
        SumDispersal split = made("group 7 2;traitor 1;traitor 2;traitor 3;traitor 4;traitor 5;traitor 6;",
            "skew6 0 1;say1 0 0;say2 0 0;say3 0 0;say4 0 0;say5 1 0;say6 1 0;hear0 1;hear0 2;hear0 3;hear0 4;hear0 5;hear0 6;");
        due("four echoes of 0, two of 1: not five of one", split.member(0, 3), -1);
        work(split, "say1 0 1;say2 0 1;say3 1 1;say4 1 1;hear0 1;hear0 2;hear0 3;hear0 4;");
        due("two readies of each: not three of one", split.member(0, 3), -1);
        work(split, "say5 1 1;hear0 5;");
        due("three of 1", split.member(0, 3), 1);
        due("four with its own: not done", split.member(0, 4), -1);
        work(split, "say6 1 1;hear0 6;");
        due("five: done by 1", split.member(0, 4), 1);
    }

    private static String traitorsButFirst(int n, int t) {
        StringBuilder text = new StringBuilder("group " + n + " " + t + ";");
        for (int m = 1; m < n; m++) {
            text.append("traitor ").append(m).append(';');
        }
        return text.toString();
    }

    private static void echoesOf(int n, int t) {
        SumDispersal x = made(traitorsButFirst(n, t), "deal 0;");
        SumDispersal silent = made(traitorsButFirst(n, t));
        for (int heard = 0; heard < n; heard++) {
            if (heard > 0) {
                work(x, "say " + heard + " 0 0;hear 0 " + heard + ";");
                work(silent, "say " + heard + " 0 0;hear 0 " + heard + ";");
            }
            String by = heard + " others' echoes of " + n + ", " + t;
            boolean ready = heard + 1 >= n - t;
            due("ready by its own and " + by, x.member(0, 3), ready ? 0 : -1);
            due("done by its own ready alone, " + by, x.member(0, 4), ready && t == 0 ? 0 : -1);
            due("ready by " + by, silent.member(0, 3), heard >= n - t ? 0 : -1);
            due("it says no echo by " + by, silent.member(0, 2), -1);
        }
    }

    private static void readiesOf(int n, int t) {
        SumDispersal x = made(traitorsButFirst(n, t));
        for (int heard = 1; heard < n; heard++) {
            work(x, "say " + heard + " 0 1;hear 0 " + heard + ";");
            String by = heard + " readies of " + n + ", " + t;
            due("ready by " + by, x.member(0, 3), heard >= t + 1 ? 0 : -1);
            due("done by " + by, x.member(0, 4), heard >= t + 1 && heard + 1 >= 2 * t + 1 ? 0 : -1);
        }
    }

    private static void actsByNumbers() {
        // Of two members without trust one hearing brings two echoes of one vector, and one ready of another.
        String two = "group 2 0;traitor 1;";
        SumDispersal x = made(two, "deal 0;skew 1 0 1;say 1 0 0;say 1 1 1;hear 0 1;");
        due("echoes of 0, a ready of 1: ready of 0", x.member(0, 3), 0);
        due("done by 0", x.member(0, 4), 0);
        SumDispersal y = made(two, "skew 0 1 1;deal 0;say 1 1 0;say 1 0 1;hear 0 1;");
        due("0 says echo of 1", y.member(0, 2), 1);
        due("echoes of 1, a ready of 0: ready of 0", y.member(0, 3), 0);
        due("done by 0, too", y.member(0, 4), 0);
        // Three readies of vector 1 make 0 ready of it; five of 0 later make it done by 0.
        SumDispersal z = made("group 4 1;traitor 1;traitor 2;traitor 3;",
            "skew 3 0 1;say1 1 1;hear0 1;say2 0 1;hear0 2;say3 1 1;hear0 3;");
        due("two of 1, one of 0: ready of 1", z.member(0, 3), 1);
        due("three with its own: done by 1, at once", z.member(0, 4), 1);
    }

    private static void taints() {
        sentence("taint: symbol J of the DEALER's FRAGMENT for M is D more (what is left by 97; never REFUSED).");
        SumDispersal x = made(FOUR);
        due("12 and 84 are 96", work(x, "taint 0 0 84;"), 1);
        due("96", x.dealer(0, 0), 96);
        due("and 1", work(x, "taint 0 0 1;"), 1);
        due("97 leaves 0", x.dealer(0, 0), 0);
        due("and 96", work(x, "taint 0 0 96;"), 1);
        due("96 again", x.dealer(0, 0), 96);
        due("and 96", work(x, "taint 0 0 96;"), 1);
        due("192 leaves 95", x.dealer(0, 0), 95);
        due("the other symbol stays", x.dealer(0, 1), 2);
        due("another's stays", x.dealer(1, 0), 14);
        due("never refused: of one not up, dealt to, a traitor, again and again",
            work(made(FOUR + "traitor 2;", "crash 0;deal 1;"), "taint 0 0 1;taint 1 1 1;taint 2 0 1;again 60[taint 1 1 1;];"), 63);
    }

    private static void skews() {
        // No sum comes beyond 912,672 and 7 times 999, so that what is left by 1,000,000 is the sum itself.
        sentence("skew: the DEALER's VECTOR for M is now one like it with D more for A (what is left by 1,000,000): "
            + "that of that number that has these SUMS, or a new one (REFUSED, if there are 8).");
        SumDispersal x = made(told(3, 0, 3, 96, 96, 96), "again 7[skew 2 1 999;];");
        due("the greatest sum", x.vector(7, 1), 912_672 + 7 * 999);
        due("its others stay", x.vector(7, 0), 912_672);
        due("the dealer's for others stay", x.skewed(1), 0);
        due("8 are there: no new one", work(x, "skew 2 1 1;skew 0 0 1;skew 1 1 998;skew 1 2 999;"), 0);
        due("refused", x.told(10), 4);
        due("the dealer's stays", x.skewed(1), 0);
        due("8 are there: one that has these sums is", work(x, "skew 1 1 999;skew 1 1 999;skew 0 1 999;"), 3);
        due("of that number", x.skewed(1), 2);
        due("of that number, 0", x.skewed(0), 1);
        due("8 still", x.told(3), 8);
        SumDispersal y = made(told(2, 0, 1, 10), "skew 0 0 1;skew 0 1 2;skew 1 1 2;skew 1 0 1;");
        due("three new ones, and one there", y.told(3), 4);
        due("by one way", y.skewed(0), 2);
        due("by the other way", y.skewed(1), 2);
        due("a new one between", y.vector(3, 1), 12);
        SumDispersal z = made(told(2, 0, 1, 10), "skew 0 0 5;skew 1 0 2;skew 1 0 3;");
        due("5, or 2 and 3", z.skewed(1), 1);
        due("of one not up, dealt to", work(made("", "crash 0;deal 1;"), "skew 0 0 1;skew 1 3 1;"), 2);
        SumDispersal sevenFull = made(told(2, 0, 1, 10), "again 6[skew 0 0 1;];");
        due("7 are there", sevenFull.told(3), 7);
        due("an eighth can be made", work(sevenFull, "skew 1 1 1;"), 1);
        due("no ninth", work(sevenFull, "skew 1 1 1;"), 0);
    }

    private static void says() {
        sentence("say: traitor M says ECHO (R 0) or READY (1) of V (REFUSED, if M is no traitor, not UP, there is no VECTOR V, "
            + "or it said that last).");
        SumDispersal x = made("traitor 2;traitor 3;", "crash 3;");
        due("no traitor", work(x, "say 0 0 0;say 0 0 1;"), 0);
        due("not up", work(x, "say 3 0 0;say 3 0 1;"), 0);
        due("no vector 1, 7", work(x, "say 2 1 0;say 2 7 1;"), 0);
        due("vector 0", work(x, "say 2 0 0;"), 1);
        due("echo", x.member(2, 2), 0);
        due("no ready", x.member(2, 3), -1);
        due("ready", work(x, "say 2 0 1;"), 1);
        due("said", x.member(2, 3), 0);
        due("it said these last", work(x, "say 2 0 0;say 2 0 1;"), 0);
        work(x, "again 7[skew 0 0 1;];");
        due("8 vectors: of the last", work(x, "say 2 7 0;say 2 7 1;"), 2);
        due("echo of 7", x.member(2, 2), 7);
        due("ready of 7", x.member(2, 3), 7);
        due("back to 0, once each", work(x, "say 2 0 0;say 2 0 0;say 2 0 1;say 2 0 1;"), 2);
        SumDispersal y = made("traitor 0;", "skew 1 0 1;");
        due("of the last vector", work(y, "say 0 1 0;"), 1);
        due("of one beyond", work(y, "say 0 2 0;"), 0);
        due("a traitor does not act by what it says", work(made("group 1 0;traitor 0;"), "say 0 0 0;"), 1);
        due("not ready by its echo", made("group 1 0;traitor 0;", "say 0 0 0;").member(0, 3), -1);
        due("not done by its ready", made("group 1 0;traitor 0;", "say 0 0 1;").told(8), 0);
    }

    private static void forges() {
        sentence("forge: symbol J of traitor M's FRAGMENT is D more (left by 97; REFUSED, if it is no traitor, or has none).");
        SumDispersal x = made(FOUR + "traitor 3;traitor 2;", "deal 0;deal 3;taint 2 0 1;deal 2;");
        due("no traitor, with and without a fragment", work(x, "forge 0 0 1;forge 1 0 1;"), 0);
        due("a traitor that was dealt a wrong one: none", work(x, "forge 2 0 1;"), 0);
        due("18 and 78", work(x, "forge 3 0 78;"), 1);
        due("are 96", x.symbol(3, 0), 96);
        due("and 1", work(x, "forge 3 0 1;"), 1);
        due("leaves 0", x.symbol(3, 0), 0);
        due("96 and 96", work(x, "forge 3 0 96;forge 3 0 96;"), 2);
        due("leave 95", x.symbol(3, 0), 95);
        due("its other symbol", x.symbol(3, 1), 29);
        due("the dealer's stays", x.dealer(3, 0), 18);
        SumDispersal y = made(FOUR + "traitor 3;");
        due("not dealt to yet", work(y, "forge 3 0 1;deal 3;forge 3 1 1;"), 2);
        due("the first was refused", y.symbol(3, 0), 18);
        due("of one that is not up", work(made(FOUR + "traitor 3;", "deal 3;crash 3;"), "forge 3 0 1;"), 1);
    }

    private static void crashes() {
        sentence("crash: M is not UP (REFUSED, if it is not; what it SAID can be heard still).");
        SumDispersal x = made("group 7 2;traitor 6;");
        for (int m = 0; m < 7; m++) {
            due("crash " + m, work(x, "crash " + m + ";"), 1);
            due("up", x.told(4), 127 & -1 << (m + 1));
            due("once more", work(x, "crash " + m + ";"), 0);
        }
        SumDispersal y = made("traitor 3;", "deal 0;say 3 0 1;crash 0;crash 3;");
        due("both are heard still", work(y, "hear 1 0;hear 1 3;"), 2);
        due("echo", y.heard(1, 0, 0), 0);
        due("ready", y.heard(1, 3, 1), 0);
        due("it keeps what it said", y.member(0, 2), 0);
        due("its fragment", y.symbol(0, 0), 0);
        due("its stage", y.member(0, 0), 1);
        SumDispersal z = made("group 1 0;", "deal 0;crash 0;");
        due("it is done still", z.told(8), 1);
    }
}
