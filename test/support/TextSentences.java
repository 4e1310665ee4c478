import java.util.function.Consumer;

/** The first passage of "Terms": the texts, their limits and their FAULTS. */
final class TextSentences extends Sheet {
    static void run() {
        dispersals();
        groups();
        stripes();
        symbols();
        traitors();
        works();
        steps();
        books();
        numbersWordsBlanks();
        faults();
        faultsOfOnePlace();
    }

    private static void reads(String text, int answer, int fault) {
        SumDispersal x = new SumDispersal();
        due("dispersal of '" + text + "'", dispersal(x, text), answer);
        due("fault() of '" + text + "'", x.fault(), fault);
    }

    private static void works(String dispersal, String text, int answer, int fault) {
        SumDispersal x = made(dispersal);
        due("work of '" + text + "'", work(x, text), answer);
        due("fault() of '" + text + "'", x.fault(), fault);
    }

    private static void works(String text, int answer, int fault) {
        works("", text, answer, fault);
    }

    private static void books(String text, int answer, int fault) {
        SumDispersal x = new SumDispersal();
        due("book of '" + text + "'", book(x, text), answer);
        due("fault() of '" + text + "'", x.fault(), fault);
    }

    private static void dispersals() {
        sentence("A DISPERSAL is a text of up to 600 bytes: { CLAUSE \";\" }, at most 60.");
        reads("", 4, -1);
        reads(" ".repeat(600), 4, -1);
        reads("traitor 3;".repeat(59) + "traitor3;", 4, -1);
        reads("traitor 3;".repeat(60), 4, -1);
        reads("traitor 3;".repeat(59) + "traitor  3", -9, 600);
        reads("traitor 3;".repeat(59) + "traitor 3:", -9, 599);
        SumDispersal x = new SumDispersal();
        feed(x, "traitor 3;".repeat(60));
        due("a 601st byte", x.feed(0, 0, 0, 0, 0), -1);
        refused(x, ARGUMENT, "dispersal(601)", o -> o.dispersal(601));
        due("dispersal(600)", x.dispersal(600), 4);
        reads("stripes1;", 4, -1);
        reads("stripes1;".repeat(59), 4, -1);
        reads("stripes1;".repeat(60), 4, -1);
        reads("stripes1;".repeat(60) + "    ", 4, -1);
        reads("stripes1;".repeat(61), -7, 540);
        reads("stripes1;".repeat(60) + "   group", -7, 543);
        due("the 60th counts", made("stripes1;".repeat(59) + "stripes3;").told(2), 3);
    }

    private static void groups() {
        sentence("CLAUSE: \"group\" N T (N MEMBERS, 0 to N less 1: N 1 to 7; TRUST T, 0 to 2, 3 T and 1 at most N; "
            + "4 and 1 without; the last counts, for all)");
        for (int n = 0; n <= 10; n++) {
            for (int t = 0; t <= 3; t++) {
                groupOf(n, t);
            }
        }
        reads("group 7 10;", -8, 8);
        reads("group 4294967300 1;", -8, 6);
        reads("group 7 4294967296;", -8, 8);
        due("N without", new SumDispersal().told(0), 4);
        due("T without", new SumDispersal().told(1), 1);
        due("N without, other clauses", made("stripes 1;traitor 6;").told(0), 4);
        due("T without, other clauses", made("stripes 1;traitor 6;").told(1), 1);
        SumDispersal x = made("traitor 1;traitor 6;symbol 10;group 1 0;symbol 20;group 7 2;stripes 1;symbol 30;group 2 0;symbol 40;");
        due("the last N", x.told(0), 2);
        due("the last T", x.told(1), 0);
        due("for traitors told ahead", x.told(5), 2);
        due("for symbols told ahead: K is 1", x.coded(50, 0), 10);
        due("for the members that are up", x.told(4), 3);
        SumDispersal y = made("group 1 0;traitor 6;group 7 2;");
        due("the last N, larger", y.told(0), 7);
        due("the last T, larger", y.told(1), 2);
        due("a traitor told ahead of it", y.told(5), 64);
        reads("group 7 2;group 3 1;", -8, 18);
    }

    private static void groupOf(int n, int t) {
        String text = "group " + n + " " + t + ";";
        if (n < 1 || n > 7) {
            reads(text, -8, 6);
        } else if (t > 2 || 3 * t + 1 > n) {
            reads(text, -8, 8);
        } else {
            reads(text, n, -1);
            SumDispersal x = made(text);
            due("told(0) of " + text, x.told(0), n);
            due("told(1) of " + text, x.told(1), t);
            due("told(4) of " + text, x.told(4), (1 << n) - 1);
            due("the last member of " + text, x.member(n - 1, 0), 0);
            refused(x, NO_SUCH, "one beyond of " + text, o -> o.member(n, 0));
            refused(x, NO_SUCH, "one below of " + text, o -> o.member(-1, 0));
        }
    }

    private static void stripes() {
        sentence("\"stripes\" S (1 to 3; 2 without; likewise)");
        reads("stripes 0;", -8, 8);
        reads("stripes 4;", -8, 8);
        reads("stripes 10;", -8, 8);
        reads("stripes 4294967297;", -8, 8);
        for (int s = 1; s <= 3; s++) {
            int beyond = s;
            SumDispersal x = made("stripes " + s + ";");
            due("told(2) of " + s, x.told(2), s);
            due("the last stripe of " + s, x.dealer(0, s - 1), 0);
            refused(x, INDEX, "one beyond of " + s, o -> o.dealer(0, beyond));
        }
        due("without", new SumDispersal().told(2), 2);
        due("without, other clauses", made("group 1 0;symbol 5;").told(2), 2);
        due("the last counts", made("stripes 3;stripes 1;").told(2), 1);
        due("the last counts, larger", made("stripes 1;stripes 2;stripes 3;").told(2), 3);
        SumDispersal x = made("group 1 0;stripes 3;symbol 1;symbol 2;symbol 3;stripes 1;");
        due("for symbols told ahead", x.vector(0, 0), 1);
        SumDispersal y = made("group 1 0;stripes 1;symbol 1;symbol 2;symbol 3;stripes 3;");
        due("for symbols told ahead, larger", y.vector(0, 0), 1 + 2 * 97 + 3 * 9409);
    }

    private static void symbols() {
        sentence("\"symbol\" V (0 to 96; 9 at most: the file, in order; those that are not told are 0, "
            + "those beyond K S are not in it)");
        due("V of 0", made("group 1 0;symbol 0;").coded(0, 0), 0);
        due("V of 96", made("group 1 0;symbol 96;").coded(0, 0), 96);
        reads("symbol 97;", -8, 7);
        reads("symbol 100;", -8, 7);
        reads("symbol 4294967296;", -8, 7);
        reads("symbol 1;".repeat(8), 4, -1);
        reads("symbol 1;".repeat(9), 4, -1);
        reads("symbol 1;".repeat(10), -7, 81);
        reads("group 1 0;" + "symbol 1;".repeat(5) + "stripes 2;" + "symbol 1;".repeat(4) + "traitor 0;symbol 1;", -7, 111);
        SumDispersal x = made("group 7 2;stripes 3;symbol 9;symbol 8;symbol 7;symbol 6;symbol 5;symbol 4;symbol 3;symbol 2;symbol 1;");
        for (int j = 0; j < 3; j++) {
            int c = 9 - 3 * j;
            due("in order: at 0 of stripe " + j, x.coded(0, j), c);
            due("in order: at 1 of stripe " + j, x.coded(1, j), 3 * c - 3);
            due("in order: at 96 of stripe " + j, x.coded(96, j), c - (c - 1) + (c - 2));
        }
        SumDispersal y = made("group 4 1;stripes 2;symbol 5;symbol 6;symbol 7;");
        due("told", y.coded(1, 0), 11);
        due("the fourth is not told", y.coded(1, 1), 7);
        due("none is told", made("group 7 2;stripes 3;").coded(50, 2), 0);
        SumDispersal z = made("group 2 0;stripes 1;symbol 5;symbol 6;symbol 7;", "deal 0;deal 1;hear 0 1;");
        due("beyond K S: the fragment", z.symbol(0, 0), 5);
        due("beyond K S: the sum", z.vector(0, 1), 5);
        due("beyond K S: file(1, 0)", z.file(1, 0), 5);
        due("beyond K S: file(1, 1)", z.file(1, 1), 0);
        due("beyond K S: file(1, 2)", z.file(1, 2), 0);
        due("those of the dispersal ahead are gone", again("symbol 9;symbol 8;symbol 7;symbol 6;", "symbol 1;").vector(0, 0), 1);
    }

    private static SumDispersal again(String ahead, String behind) {
        SumDispersal x = made(ahead);
        dispersal(x, behind);
        return x;
    }

    private static void traitors() {
        sentence("or \"traitor\" M (0 to 6; beyond N, as told at the end, left out).");
        for (int m = 0; m <= 6; m++) {
            due("traitor " + m, made("group 7 2;traitor " + m + ";").told(5), 1 << m);
            for (int n = 1; n <= 7; n++) {
                due("traitor " + m + " of " + n, made("traitor " + m + ";group " + n + " 0;").told(5), m < n ? 1 << m : 0);
            }
        }
        reads("traitor 7;", -8, 8);
        reads("group 7 2;traitor 7;", -8, 18);
        reads("traitor 4294967296;", -8, 8);
        reads("traitor 32;", -8, 8);
        due("twice", made("traitor 1;traitor 1;").told(5), 2);
        due("all", made("traitor 0;traitor 1;traitor 2;traitor 3;").told(5), 15);
        due("none", made("group 7 2;").told(5), 0);
        due("beyond N just then, not at the end", made("group 1 0;traitor 6;group 7 0;").told(5), 64);
        due("those of the dispersal ahead are gone", again("group 7 2;traitor 6;traitor 1;", "group 7 2;traitor 2;").told(5), 4);
    }

    private static void works() {
        sentence("WORK is a text of up to 150 bytes: { STEP \";\" }.");
        works("", 0, -1);
        works(" ".repeat(150), 0, -1);
        works("deal0;".repeat(25), 1, -1);
        due("25 steps, 24 refused", made("", "deal0;".repeat(25)).told(10), 24);
        works("deal0;".repeat(24) + "deal 0", -9, 150);
        works("deal0;".repeat(24) + "deal0:", -9, 149);
        works("deal0;".repeat(24) + "crash", -9, 149);
        works(" ".repeat(143) + "deal 0;", 1, -1);
        works("again1[];".repeat(16) + "deal1;", 1, -1);
        refused(() -> taped("deal 0;" + " ".repeat(153)), ARGUMENT, "work of 151 bytes", o -> o.work(151));
        due("work of 150 bytes", taped("deal 0;" + " ".repeat(153)).work(150), 1);
        due("work of 149 bytes", taped("deal 0;" + " ".repeat(153)).work(149), 1);
    }

    private static SumDispersal taped(String text) {
        SumDispersal x = new SumDispersal();
        feed(x, text);
        return x;
    }

    private static void steps() {
        sentence("STEP (M, A, B below N; J below S): \"deal\" M, \"hear\" B A, \"taint\" M J D (D 1 to 96), "
            + "\"skew\" M A D (D 1 to 999), \"say\" M V R (V 0 to 7, R 0 or 1), \"forge\" M J D (D 1 to 96), \"crash\" M, "
            + "or \"again\" V \"[\" { STEP \";\" } \"]\" (V 0 to 60).");
        for (int n = 1; n <= 7; n++) {
            for (int s = 1; s <= 3; s++) {
                String dispersal = "group " + n + " 0;stripes " + s + ";traitor 0;";
                int[] member = {0, n - 1};
                int[] stripe = {0, s - 1};
                int[] more = {1, 96};
                step(dispersal, "deal", ";", member);
                step(dispersal, "hear", ";", member, member);
                step(dispersal, "taint", ";", member, stripe, more);
                step(dispersal, "skew", ";", member, member, new int[] {1, 999});
                step(dispersal, "say", ";", member, new int[] {0, 7}, new int[] {0, 1});
                step(dispersal, "forge", ";", member, stripe, more);
                step(dispersal, "crash", ";", member);
                step(dispersal, "again", " [];", new int[] {0, 60});
            }
        }
        works("again 0 [deal 0;];", 0, -1);
        works("again 1 [taint 0 0 1;];", 1, -1);
        works("again 60 [taint 0 0 1;];", 60, -1);
        works("again 2 [];", 0, -1);
        works("again 2 [taint 0 0 1;taint 0 0 1;again 3 [taint 0 0 1;];];", 10, -1);
        works("again 2 [taint 0 0 1];", -9, 20);
        works("again 2 taint 0 0 1;", -9, 8);
        works("again [];", -9, 6);
        works("again 2 [;];", -9, 9);
        works("deal 0;];", -9, 7);
        works("again 1 []", -9, 10);
        works("again 1 []];", -9, 10);
        works("deal 0 1;", -9, 7);
        works("hear 0;", -9, 6);
        works("taint 0 0;", -9, 9);
        works("skew 0 0;", -9, 8);
        works("say 0 0;", -9, 7);
        works("forge 0 0;", -9, 9);
        works("crash;", -9, 5);
    }

    /** Each number at its least, at its most, and one beyond each, the others at their least or most. */
    private static void step(String dispersal, String word, String end, int[]... ranges) {
        for (int at = 0; at < ranges.length; at++) {
            for (int other = 0; other <= 1; other++) {
                for (int value : new int[] {ranges[at][0] - 1, ranges[at][0], ranges[at][1], ranges[at][1] + 1}) {
                    if (value >= 0) {
                        stepWith(dispersal, word, end, ranges, new int[] {at, value, other});
                    }
                }
            }
        }
    }

    private static void stepWith(String dispersal, String word, String end, int[][] ranges, int[] choice) {
        StringBuilder text = new StringBuilder(word);
        int place = 0;
        for (int i = 0; i < ranges.length; i++) {
            text.append(' ');
            if (i == choice[0]) {
                place = text.length();
            }
            text.append(i == choice[0] ? choice[1] : ranges[i][choice[2]]);
        }
        text.append(end);
        boolean fits = choice[1] >= ranges[choice[0]][0] && choice[1] <= ranges[choice[0]][1];
        SumDispersal x = made(dispersal);
        int answer = work(x, text.toString());
        due("fault() of '" + text + "' behind " + dispersal, x.fault(), fits ? -1 : place);
        due("work of '" + text + "' behind " + dispersal, answer < 0 ? answer : 0, fits ? 0 : -8);
        due("works behind that", x.count(2), fits ? 1 : 0);
    }

    private static void books() {
        sentence("A BOOK is a text of up to 60 bytes: { M S \";\" }, no M twice: MEMBER M (below N) comes to STAGE S (0 to 3).");
        books("", 0, -1);
        books(" ".repeat(60), 0, -1);
        books(" ".repeat(56) + "0 0;", 1, -1);
        books(" ".repeat(57) + "0 0", -9, 60);
        refused(() -> taped("0 0;" + " ".repeat(76)), ARGUMENT, "book of 61 bytes", o -> o.book(61));
        due("book of 60 bytes", taped("0 0;" + " ".repeat(76)).book(60), 1);
        for (int n = 1; n <= 7; n++) {
            SumDispersal x = made("group " + n + " 0;");
            due("member " + (n - 1) + " of " + n, book(x, (n - 1) + " 0;"), 1);
            due("member " + n + " of " + n, book(x, n + " 0;"), -8);
            due("its place", x.fault(), 0);
            StringBuilder all = new StringBuilder();
            for (int m = 0; m < n; m++) {
                all.append(m).append(" 0;");
            }
            due("a line for all of " + n, book(x, all.toString()), n);
            due("and one twice", book(x, all + "0 1;"), -8);
            due("its place", x.fault(), 4 * n);
        }
        for (int s = 0; s <= 3; s++) {
            books("0 " + s + ";", 1, -1);
        }
        books("0 4;", -8, 2);
        books("0 10;", -8, 2);
        books("4 0;", -8, 0);
        books("0 0;1 0;0 0;", -8, 8);
        books("3 3;2 2;1 1;0 0;", 4, -1);
        books("0 0;;", -9, 4);
        books("0 0 0;", -9, 4);
        books("0;", -9, 1);
        books("book 0 0;", -9, 0);
        SumDispersal x = made("group 1 0;", "deal 0;");
        for (int s = 0; s <= 3; s++) {
            book(x, "0 " + s + ";");
            due("0 comes to stage " + s, x.fits(0), s == 3 ? 1 : 0);
        }
    }

    private static void numbersWordsBlanks() {
        sentence("Numbers: digits, as many as stand there; WORDS: small letters, as many as stand there; "
            + "blanks (32) may stand ahead of all these, and at the end.");
        String zeros = "0".repeat(140);
        works("deal " + zeros + "3;", 1, -1);
        works("deal " + zeros + "4;", -8, 5);
        reads("group " + zeros + "5 " + zeros + "1;stripes" + zeros + "3;", 5, -1);
        reads("symbol " + "0".repeat(590) + "96;", 4, -1);
        reads("symbol " + "0".repeat(590) + "97;", -8, 7);
        books("0".repeat(27) + "3 " + "0".repeat(29) + "3;", 1, -1);
        for (String huge : new String[] {"256", "65536", "2147483648", "4294967296", "18446744073709551616", "1" + zeros, "9".repeat(140)}) {
            works("deal " + huge + ";", -8, 5);
            reads("stripes " + huge.replace("6", "7") + ";", -8, 8);
            reads("symbol " + huge + ";", -8, 7);
        }
        books("4294967296 0;", -8, 0);
        books("0 18446744073709551616;", -8, 2);
        works("hear 01;", -9, 7);
        works("hear 10 1;", -8, 5);
        works("deal0;hear1 0;taint0 1 96;again2[];", 3, -1);
        for (String word : new String[] {"d", "dea", "deall", "dealdeal", "Deal", "dEal", "deaL", "hea", "taints", "skews",
                "says", "forges", "crashes", "agai", "group", "z".repeat(140)}) {
            works(word + " 0;", -9, 0);
        }
        for (String word : new String[] {"g", "grou", "groups", "Group", "stripe", "symbols", "traitors", "deal", "z".repeat(500)}) {
            reads("  " + word + " 1 0;", -9, 2);
        }
        for (String word : new String[] {"deal", "hear", "taint", "skew", "say", "forge", "crash", "again"}) {
            otherLetters(word, text -> works(text + " 0;", -9, 0));
        }
        for (String word : new String[] {"group", "stripes", "symbol", "traitor"}) {
            otherLetters(word, text -> reads(text + " 1;", -9, 0));
        }
        works("de al 0;", -9, 0);
        works("deal 0 0;", -9, 7);
        works("taint 0 0 9 6;", -9, 12);
        reads("   group   4   1   ;   stripes   3   ;  symbol  7 ; traitor  1 ;  ", 4, -1);
        works("  again  2  [  taint  0  0  1  ;  say 0  0  1  ;  ]  ;  deal  0  ;  ", 3, -1);
        books("   0   3  ;  1   2 ;   ", 2, -1);
        otherSignsThanBlanks();
    }

    private static void otherLetters(String word, Consumer<String> test) {
        for (int at = 0; at < word.length(); at++) {
            char other = word.charAt(at) == 'z' ? 'a' : (char) (word.charAt(at) + 1);
            test.accept(word.substring(0, at) + other + word.substring(at + 1));
            test.accept(word.substring(0, at) + word.substring(at + 1));
        }
    }

    private static void otherSignsThanBlanks() {
        for (int sign = 0; sign < 256; sign++) {
            String between = "deal" + (char) sign + "0;";
            if (sign == ' ' || sign == '0') {
                works(between, 1, -1);
            } else if (sign >= '1' && sign <= '9') {
                works(between, -8, 4);
            } else {
                works(between, -9, sign >= 'a' && sign <= 'z' ? 0 : 4);
            }
            if (sign == ' ') {
                works("deal 0;" + (char) sign, 1, -1);
            } else {
                works("deal 0;" + (char) sign, -9, 7);
                reads("stripes 1;" + (char) sign, -9, 10);
            }
            if (sign != ' ' && (sign < '0' || sign > '9')) {
                books((char) sign + "0 0;", -9, 0);
                books("0 0;" + (char) sign, -9, 4);
            }
        }
    }

    private static void faults() {
        sentence("FAULTS, the first from the left, at its first byte: 1 what can't stand there "
            + "(at the length, if the text ends too early);");
        works("deal 9;dael 0;", -8, 5);
        works("dael 0;deal 9;", -9, 0);
        works("hear 7 8 9", -8, 5);
        works("hear 0 8 9", -8, 7);
        works("hear 0 1 9", -9, 9);
        reads("group 8 9;", -8, 6);
        reads("stripes 1;symbol 97;groups", -8, 17);
        books("0 0;0 9;", -8, 4);
        books("0 9;0 0;", -8, 2);
        works(";", -9, 0);
        works("  ;", -9, 2);
        works("0;", -9, 0);
        works("]", -9, 0);
        works("[", -9, 0);
        works("deal 0,", -9, 6);
        works("deal -1;", -9, 5);
        works("deal +1;", -9, 5);
        works("deal a;", -9, 5);
        works("deal ;", -9, 5);
        reads(";", -9, 0);
        reads("group 4;", -9, 7);
        reads("group;", -9, 5);
        reads("group 4 1 1;", -9, 10);
        reads("traitor 1 2;", -9, 10);
        reads("stripes;", -9, 7);
        endsTooEarly("deal 0;", 4);
        endsTooEarly("hear 1 0 ;", 4);
        endsTooEarly("taint 0 0 1;", 5);
        endsTooEarly("skew 0 0 1;", 4);
        endsTooEarly("say 0 0 1;", 3);
        endsTooEarly("forge 0 0 1;", 5);
        endsTooEarly("crash 0;", 5);
        endsTooEarly("again 2 [ ] ;", 5);
        rightBehindWrong();
        SumDispersal x = new SumDispersal();
        feed(x, "again 2 [again 1[deal 0;];];");
        due("the text ends at n, not at the tape's end", x.work(26), -9);
        due("at n", x.fault(), 26);
        for (int end = 5; end < 10; end++) {
            reads("group 4 1;".substring(0, end), -9, end);
        }
        for (int end = 1; end < 4; end++) {
            books("0 0;".substring(0, end), -9, end);
        }
    }

    /** What a text with a fault left open or told is forgotten by the next one. */
    private static void rightBehindWrong() {
        for (String wrong : new String[] {"again 2 [", "again 2 [again 3 [deal 0;", "again1[".repeat(7), "deal 9;", "x"}) {
            SumDispersal x = new SumDispersal();
            work(x, wrong);
            due("a right one behind " + wrong, work(x, "taint 0 0 1;again 2 [taint 0 0 1;];"), 3);
            work(x, wrong);
            due("shut behind " + wrong, work(x, "];"), -9);
            due("its place", x.fault(), 0);
        }
        SumDispersal x = new SumDispersal();
        dispersal(x, "group 1 0;stripes 3;symbol 5;traitor 0;x");
        due("a dispersal behind a wrong one", dispersal(x, "symbol 6;"), 4);
        due("its own symbol alone", x.vector(0, 0), 6);
        due("no traitor", x.told(5), 0);
        due("its stripes", x.told(2), 2);
        book(x, "0 0;1 1;2 5;");
        due("a book behind a wrong one", book(x, "0 3;"), 1);
        due("1 is in no line", x.look(0), 1);
    }

    /** Cut behind its word the text lacks something; cut within its word it has a word that is none. */
    private static void endsTooEarly(String step, int word) {
        for (int end = 1; end < step.length(); end++) {
            works(step.substring(0, end), -9, end < word ? 0 : end);
            works("deal 0;" + step.substring(0, end) + "  ", -9, end < word ? 7 : end + 9);
            works("again 1 [" + step.substring(0, end), -9, end < word ? 9 : end + 9);
        }
        works("again 1 [" + step, -9, 9 + step.length());
    }

    private static void faultsOfOnePlace() {
        sentence("2 a number that is none such (T by N: at T; an M twice in a BOOK);");
        reads("group 1 1;", -8, 8);
        reads("group 6  2;", -8, 9);
        reads("group 7 3;", -8, 8);
        reads("stripes  9 x", -8, 9);
        works("say 0 0 2 x", -8, 8);
        books("1 1; 2 2;  1 1;", -8, 11);
        books("1 1;01 1;", -8, 4);
        books("1 1;1", -8, 4);
        sentence("3 a CLAUSE or symbol too many (at its word), or a 7th again that is open at one time (at its word); of one the least.");
        String sixty = "stripes1;".repeat(60);
        reads(sixty + "  traitor 9;", -7, 542);
        reads(sixty + "group", -7, 540);
        reads(sixty + "symbol 97", -7, 540);
        reads(sixty + "grou", -9, 540);
        reads(sixty + ";", -9, 540);
        reads(sixty + "5", -9, 540);
        reads("stripes1;".repeat(59) + "stripes4;traitor 1;", -8, 538);
        reads("symbol 1;".repeat(9) + " symbol x", -7, 82);
        reads("symbol 1;".repeat(9) + "symbols 1;", -9, 81);
        reads("symbol 1;".repeat(9) + "stripes1;".repeat(51), 4, -1);
        reads("symbol 1;".repeat(9) + "stripes1;".repeat(51) + "symbol 1;", -7, 540);
        String six = "again1[".repeat(6);
        works(six + "taint 0 0 1;" + "];".repeat(6), 1, -1);
        works(six + "again1[", -7, 42);
        works(six + "  again 99", -7, 44);
        works(six + "again", -7, 42);
        works(six + "agai", -9, 42);
        works(six + "agains", -9, 42);
        works(six + "];again1[];" + "];".repeat(5), 0, -1);
        works(six + "];again1[again1[];", -7, 51);
        works("again1[again1[again1[];];];".repeat(5), 0, -1);
        works("again1[];".repeat(16), 0, -1);
    }
}
