import java.util.Arrays;

/** The promises 1 to 15: an object, its texts, and what is there. */
final class CallSentences extends Sheet {
    static void run() {
        calls();
        newObject();
        feeds();
        dispersals();
        dispersalsAnew();
        works();
        worksThatAreThere();
        books();
        faults();
        undos();
        told();
        members();
        symbols();
        dealers();
        vectors();
        heard();
        voices();
    }

    private static void calls() {
        sentence("An object is used for at most 512 calls after it has been made; what later calls answer is free.");
        SumDispersal x = new SumDispersal();
        int calls = 0;
        while (calls + 8 <= 512) {
            due("feed, call " + calls, x.feed(0x6465616c, 0x20303b63, 0x72617368, 0x20313b64, 0x65616c20), 20);
            due("work", x.work(15), 2);
            due("image", x.image(), 1);
            due("undo", x.undo(), 0);
            due("restore", x.restore(), 0);
            due("told(6)", x.told(6), 1);
            due("undo again", x.undo(), 0);
            refused(x, NO_SUCH, "skewed(4)", o -> o.skewed(4));
            calls += 8;
        }
        due("512 calls", calls, 512);
    }

    private static void newObject() {
        sentence("A DISPERSAL without CLAUSES.");
        SumDispersal told = made("");
        dueText("all that can be asked", picture(new SumDispersal()), picture(told));
        SumDispersal x = new SumDispersal();
        int[] first = {4, 1, 2, 1, 15, 0, 0, 0, 0, 0, 0};
        for (int what = 0; what < first.length; what++) {
            due("told(" + what + ")", x.told(what), first[what]);
        }
        for (int m = 0; m < 4; m++) {
            due("dealer(" + m + ", 0)", x.dealer(m, 0), 0);
            due("dealer(" + m + ", 1)", x.dealer(m, 1), 0);
            due("vector(0, " + m + ")", x.vector(0, m), 0);
        }
        for (int reason = 0; reason < 6; reason++) {
            due("status(" + reason + ")", x.status(reason), 0);
        }
        for (int what = 0; what < 3; what++) {
            due("count(" + what + ")", x.count(what), 0);
        }
        due("fault()", x.fault(), -1);
        due("undo()", x.undo(), -1);
        due("restore()", x.restore(), -1);
    }

    private static void feeds() {
        sentence("Twenty bytes come on the TAPE, of each number the highest first: how many there are; NONE, doing nothing, "
            + "if there would be more than 600.");
        SumDispersal x = new SumDispersal();
        due("count(1)", x.count(1), 0);
        for (int i = 1; i <= 30; i++) {
            due("feed " + i, x.feed(0x20202020, 0x20202020, 0x20202020, 0x20202020, 0x20202020), 20 * i);
            due("count(1)", x.count(1), 20 * i);
        }
        due("a 31st", x.feed(0x64646464, 0, 0, 0, 0), -1);
        due("and a 32nd", x.feed(0x64646464, 0, 0, 0, 0), -1);
        due("count(1)", x.count(1), 600);
        due("it did nothing: 600 blanks are there", x.dispersal(600), 4);
        due("then there is room", x.feed(0, 0, 0, 0, 0), 20);
        unchanged(CallSentences::fullTape, "a feed too many", o -> o.feed(0x64646464, 1, 2, 3, 4));
        // "crash 3;deal 2;cras" and 0: each number from its highest byte on.
        SumDispersal y = new SumDispersal();
        y.feed(0x63726173, 0x6820333b, 0x6465616c, 0x20323b63, 0x72617300);
        due("work(15)", y.work(15), 2);
        due("dealt to", y.told(6), 4);
        due("up", y.told(4), 7);
        // Bytes of 128 and more are no blanks, letters, digits; all four of a number count.
        for (int at = 0; at < 4; at++) {
            SumDispersal z = new SumDispersal();
            z.feed(0x20202020 | 0xff << 8 * (3 - at), 0x20202020, 0x20202020, 0x20202020, 0x202020a0);
            due("255 at " + at, z.work(20), -9);
            due("its place", z.fault(), at);
        }
        SumDispersal last = new SumDispersal();
        last.feed(0x20202020, 0x20202020, 0x20202020, 0x20202020, 0x202020a0);
        due("160 at 19", last.work(20), -9);
        due("its place", last.fault(), 19);
    }

    private static SumDispersal fullTape() {
        SumDispersal x = new SumDispersal();
        feed(x, "deal 0;deal 1;" + " ".repeat(586));
        return x;
    }

    private static SumDispersal twenty() {
        SumDispersal x = rich();
        feed(x, "0 0;                ");
        return x;
    }

    private static void dispersals() {
        sentence("The first n bytes of the TAPE (empty then) are the DISPERSAL (no BOOK, IMAGES, nothing to undo, an empty SHELF): "
            + "how many MEMBERS; or the FAULT less 10 (all stays).");
        SumDispersal x = new SumDispersal();
        feed(x, "group 2 0;group 3 0;");
        due("the first ten bytes", x.dispersal(10), 2);
        due("the tape is empty then", x.count(1), 0);
        feed(x, "group 2 0;group 3 0;");
        due("all twenty", x.dispersal(20), 3);
        feed(x, "group 2 0;group 3 0;");
        due("none of them", x.dispersal(0), 4);
        due("empty, too", x.count(1), 0);
        due("an empty tape", x.dispersal(0), 4);
        feed(x, "group 2 0;group 3 0;");
        due("eleven: the word is cut", x.dispersal(11), -9);
        due("the tape is empty behind a fault", x.count(1), 0);
        String[] faulty = {"group 4", "group 8 0;", "traitor1;".repeat(61), "x", ";", "symbol 1;".repeat(10), "group 1 0;stripes 1;group"};
        int[] answers = {-9, -8, -7, -9, -9, -7, -9};
        for (int i = 0; i < faulty.length; i++) {
            SumDispersal y = rich();
            due("a fault in " + faulty[i], dispersal(y, faulty[i]), answers[i]);
            due("the tape is empty", y.count(1), 0);
            dueText("all stays behind " + faulty[i], kept(y), kept(rich()));
        }
    }

    private static void dispersalsAnew() {
        String text = "group 5 1;stripes 1;symbol 7;symbol 9;traitor 2;";
        SumDispersal x = rich();
        due("how many members", dispersal(x, text), 5);
        due("no book", x.told(9), 0);
        due("no images", x.count(0), 0);
        due("no image to go back to", x.restore(), -1);
        due("nothing to undo", x.undo(), -1);
        due("works", x.count(2), 0);
        due("no refused steps", x.told(10), 0);
        for (int place = 0; place < 7; place++) {
            due("nothing on the shelf at " + place, x.shelf(place), -1);
        }
        SumDispersal y = rich();
        dispersal(y, text);
        dueText("all as if it were new", picture(y), picture(made(text)));
        SumDispersal z = full();
        refused(z, NO_SUCH, "skewed(4)", o -> o.skewed(4));
        z.dispersal(0);
        due("status() goes on", z.status(0), 1);
        sentence("IllegalArgumentException: n is not 0 to the TAPE's bytes (it stays).");
        refusedAll(CallSentences::twenty, ARGUMENT, "dispersal of twenty bytes", (o, n) -> o.dispersal(n), -1, 21, 600, 601);
        refusedAll(Sheet::fresh, ARGUMENT, "dispersal of no bytes", (o, n) -> o.dispersal(n), -1, 1);
        refusedAll(CallSentences::fullTape, ARGUMENT, "dispersal of 600 bytes", (o, n) -> o.dispersal(n), -1, 601);
        SumDispersal w = twenty();
        refused(w, ARGUMENT, "dispersal(21)", o -> o.dispersal(21));
        due("the tape stays", w.count(1), 20);
        due("and its bytes", w.book(20), 1);
    }

    private static void works() {
        sentence("Likewise WORK (n to 150), which is done: how many STEPS were done (agains not counted, nor REFUSED ones); "
            + "or the FAULT less 10 (none is);");
        SumDispersal x = new SumDispersal();
        feed(x, "deal 0;deal 1;deal 2;" + " ".repeat(139));
        refused(x, ARGUMENT, "n of 151 of 160", o -> o.work(151));
        refused(x, ARGUMENT, "n of 160 of 160", o -> o.work(160));
        due("the tape stays", x.count(1), 160);
        due("the first fourteen bytes", x.work(14), 2);
        due("dealt to", x.told(6), 3);
        due("the tape is empty then", x.count(1), 0);
        refused(x, ARGUMENT, "n beyond the tape", o -> o.work(1));
        due("nothing on an empty tape", x.work(0), 0);
        feed(x, "deal 3;" + " ".repeat(153));
        due("n of 150", x.work(150), 1);
        refusedAll(CallSentences::twenty, ARGUMENT, "work of twenty bytes", (o, n) -> o.work(n), -1, 21, 150, 151);
        refusedAll(CallSentences::fullTape, ARGUMENT, "work of 600 bytes", (o, n) -> o.work(n), -1, 151, 600);
        due("agains are not counted", work(made(""), "again 3[again 2[taint 0 0 1;];again 0[];again 60[];];"), 6);
        due("nor refused ones", work(made(""), "deal 0;deal 0;crash 0;crash 0;deal 0;taint 0 0 1;"), 3);
        due("none", work(made(""), "hear 0 0;"), 0);
        String[] faulty = {"deal 1;deal 1", "deal 1;deal 4;", "crash 1;" + "again1[".repeat(7), "crash 0;crash 1;;", "taint 1 1 1;x"};
        int[] answers = {-9, -8, -7, -9, -9};
        for (int i = 0; i < faulty.length; i++) {
            SumDispersal y = rich();
            due("a fault in " + faulty[i], work(y, faulty[i]), answers[i]);
            due("the tape is empty", y.count(1), 0);
            dueText("none is done of " + faulty[i], kept(y), kept(rich()));
        }
    }

    private static SumDispersal sixteen() {
        SumDispersal x = made("");
        for (int i = 0; i < 16; i++) {
            work(x, i % 2 == 0 ? "taint 0 0 1;" : "hear 0 0;");
        }
        book(x, "0 9;");
        feed(x, "taint 0 0 1;deal 9;");
        return x;
    }

    private static void worksThatAreThere() {
        sentence("-20 ahead of that (nothing is read, there is no FAULT, the TAPE is empty then): 16 WORKS are there that were not undone.");
        SumDispersal x = made("");
        for (int i = 1; i <= 16; i++) {
            due("work " + i, work(x, "taint 0 0 1;"), 1);
            due("works", x.count(2), i);
        }
        due("a 17th", work(x, "taint 0 0 1;hear 0 0;"), -20);
        due("nothing is done", x.dealer(0, 0), 16);
        due("works", x.count(2), 16);
        SumDispersal y = sixteen();
        due("a fault ahead", y.fault(), 2);
        due("ahead of a fault", y.work(19), -20);
        due("there is no fault", y.fault(), -1);
        due("the tape is empty", y.count(1), 0);
        due("nor of no steps", y.work(0), -20);
        dueText("nothing is read, all stays", kept(y), kept(sixteen()));
        refused(CallSentences::sixteen, ARGUMENT, "a wrong n comes first", o -> o.work(21));
        refused(CallSentences::sixteen, ARGUMENT, "a negative n comes first", o -> o.work(-1));
        SumDispersal z = sixteen();
        due("one is undone", z.undo(), 15);
        z.book(0);
        due("a 16th again", work(z, "taint 0 0 1;"), 1);
        due("no 17th", work(z, "taint 0 0 1;"), -20);
        SumDispersal w = made("");
        work(w, "deal 0;");
        w.image();
        for (int i = 0; i < 15; i++) {
            work(w, "");
        }
        due("full", work(w, "deal 1;"), -20);
        w.restore();
        due("restored there is room", work(w, "deal 1;"), 1);
        due("dispersed anew there is room", anew(sixteen()), 1);
    }

    private static int anew(SumDispersal x) {
        x.dispersal(0);
        return work(x, "deal 0;");
    }

    private static void books() {
        sentence("Likewise the BOOK (n to 60): how many lines.");
        SumDispersal x = new SumDispersal();
        feed(x, "0 0;1 1;2 2;3 3;" + " ".repeat(64));
        refused(x, ARGUMENT, "n of 61 of 80", o -> o.book(61));
        refused(x, ARGUMENT, "n of 80 of 80", o -> o.book(80));
        due("the tape stays", x.count(1), 80);
        due("the first twelve bytes", x.book(12), 3);
        due("told(9)", x.told(9), 3);
        due("the tape is empty then", x.count(1), 0);
        refused(x, ARGUMENT, "n beyond the tape", o -> o.book(1));
        feed(x, "0 0;1 1;2 2;3 3;" + " ".repeat(64));
        due("n of 60", x.book(60), 4);
        refusedAll(CallSentences::twenty, ARGUMENT, "book of twenty bytes", (o, n) -> o.book(n), -1, 21, 60, 61);
        refusedAll(CallSentences::fullTape, ARGUMENT, "book of 600 bytes", (o, n) -> o.book(n), -1, 61, 600);
        due("none", x.book(0), 0);
        due("told(9)", x.told(9), 0);
        due("seven lines", book(made("group 7 2;"), "0 0;1 0;2 0;3 0;4 0;5 0;6 0;"), 7);
        String[] faulty = {"0 3;1 3", "0 3;4 0;", "1 1;1 1;", "0 3;0", "0 4;"};
        int[] answers = {-9, -8, -8, -8, -8};
        for (int i = 0; i < faulty.length; i++) {
            SumDispersal y = rich();
            due("a fault in " + faulty[i], book(y, faulty[i]), answers[i]);
            due("the tape is empty", y.count(1), 0);
            dueText("all stays behind " + faulty[i], kept(y), kept(rich()));
        }
        SumDispersal y = made("", "deal 0;");
        book(y, "0 1;");
        due("a new book", book(y, "1 1;"), 1);
        due("has its lines alone: 0 is in none", y.look(0), 0);
        due("undo leaves the book", y.undo() + y.told(9), 1);
    }

    private static void faults() {
        sentence("The place of the FAULT of the latest text; NONE without.");
        SumDispersal x = new SumDispersal();
        due("no text yet", x.fault(), -1);
        work(x, "deal 4;");
        due("of a work", x.fault(), 5);
        x.work(0);
        due("a work without one", x.fault(), -1);
        book(x, "x");
        due("the first place", x.fault(), 0);
        x.book(0);
        due("a book without one", x.fault(), -1);
        dispersal(x, "traitor 3;".repeat(59) + "traitor  3");
        due("the last place", x.fault(), 600);
        refused(x, ARGUMENT, "a refused text", o -> o.work(1));
        due("is none", x.fault(), 600);
        x.undo();
        x.image();
        x.restore();
        x.feed(0, 0, 0, 0, 0);
        due("others leave it", x.fault(), 600);
        x.dispersal(0);
        due("a dispersal without one", x.fault(), -1);
        work(x, "deal 0;  deal 0");
        due("of the length", x.fault(), 15);
    }

    private static void undos() {
        sentence("The latest WORK that was done (of no STEPS, too) is undone: how many are left; -1: there is none.");
        due("none", new SumDispersal().undo(), -1);
        unchanged(Sheet::fresh, "undo of none", o -> o.undo());
        String[] steps = {"deal 0;", "skew 1 2 7;taint 1 0 4;", "", "deal 3;deal 0;", "say 3 0 0;", "hear 0 3;", "hear 0 0;", "forge 3 1 5;"};
        for (int left = steps.length - 1; left >= 0; left--) {
            SumDispersal x = made(FOUR + "traitor 3;", steps);
            due("a fault is no work", work(x, "deal 9;"), -8);
            for (int i = steps.length - 1; i >= left; i--) {
                due("undo of '" + steps[i] + "'", x.undo(), i);
            }
            due("told(10) behind it", x.told(10), 0);
            dueText("all as ahead of '" + steps[left] + "'", state(x), state(made(FOUR + "traitor 3;", Arrays.copyOf(steps, left))));
            due("one more", x.undo(), left - 1);
        }
        SumDispersal y = sixteen();
        for (int left = 15; left >= 0; left--) {
            due("sixteen can be undone", y.undo(), left);
            due("dealer(0, 0)", y.dealer(0, 0), (left + 1) / 2);
        }
        due("no more", y.undo(), -1);
        SumDispersal z = made(FOUR, "deal 0;");
        z.shelve(0, 0, 0);
        book(z, "0 0;");
        z.image();
        z.undo();
        due("the shelf stays", z.shelf(0), 206);
        due("the book stays", z.told(9), 1);
        due("images stay", z.count(0), 1);
    }

    private static void told() {
        sentence("0 N, 1 T, 2 S, 3 VECTORS, 4 MEMBERS that are UP (bits), 5 traitors (bits), 6 dealt to (bits), 7 that have a FRAGMENT (bits), "
            + "8 that are DONE (bits), 9 lines of the BOOK, 10 STEPS REFUSED by the latest WORK (0 ahead of any, behind undo(), restore()).");
        SumDispersal x = made("group 7 2;stripes 3;traitor 0;traitor 6;", "crash 5;taint 1 0 1;deal 0;deal 1;deal 2;deal 6;deal 5;hear 0 0;skew 0 0 1;");
        book(x, "1 0;2 1;3 0;");
        int[] want = {7, 2, 3, 2, 95, 65, 71, 69, 0, 3, 2};
        for (int what = 0; what <= 10; what++) {
            due("told(" + what + ")", x.told(what), want[what]);
        }
        due("done", made(FOUR, DEAL_FOUR, HEAR_FOUR, HEAR_FOUR).told(8), 15);
        due("done of one, not up", made("group 1 0;", "deal 0;crash 0;").told(8), 1);
        SumDispersal y = new SumDispersal();
        due("ahead of any", y.told(10), 0);
        work(y, "hear 0 0;hear 1 1;");
        due("two", y.told(10), 2);
        work(y, "deal 9;");
        due("a fault is no work", y.told(10), 2);
        y.image();
        due("an image leaves it", y.told(10), 2);
        work(y, "deal 0;");
        due("none of the latest", y.told(10), 0);
        work(y, "deal 0;");
        due("one", y.told(10), 1);
        y.undo();
        due("behind undo()", y.told(10), 0);
        work(y, "deal 0;deal 0;deal 0;");
        y.restore();
        due("behind restore()", y.told(10), 0);
        due("200 less the agains", made("", "again 60[again 60[hear 0 0;];];").told(10), 195);
        sentence("IllegalArgumentException: another what (so below).");
        whatTo(10, "told", (o, what) -> o.told(what));
        whatTo(4, "member", (o, what) -> o.member(1, what));
        whatTo(1, "heard", (o, what) -> o.heard(0, 3, what));
        whatTo(1, "voices", (o, what) -> o.voices(0, 1, what));
        whatTo(2, "ends", (o, what) -> o.ends(what));
        whatTo(2, "fetch", (o, what) -> o.fetch(15, what));
        whatTo(1, "fits", (o, what) -> o.fits(what));
        whatTo(1, "look", (o, what) -> o.look(what));
        whatTo(2, "sayers", (o, what) -> o.sayers(1, what));
        whatTo(1, "doom", (o, what) -> o.doom(what));
        whatTo(1, "first", (o, what) -> o.first(what));
        whatTo(1, "given", (o, what) -> o.given(15, what));
        whatTo(3, "storm", (o, what) -> o.storm(1, 1, 1, what));
        whatTo(2, "span", (o, what) -> o.span(1, 1, 1, 1, what, 0));
    }

    private static void members() {
        sentence("Of a MEMBER: 0 STAGE, 1 the VECTOR of its deal, 2 of its ECHO, 3 of its READY, 4 by which it is DONE (NONE each without).");
        SumDispersal x = made("group 4 1;traitor 1;traitor 2;traitor 3;",
            "skew 0 1 5;deal 0;say1 0 1;say2 0 1;hear0 1;hear0 2;say3 1 0;taint 1 0 1;skew 1 0 1;deal 1;deal 2;");
        int[][] want = {{3, 1, 1, 0, 0}, {2, 2, -1, 0, -1}, {2, 0, -1, 0, -1}, {1, -1, 1, -1, -1}};
        for (int m = 0; m < 4; m++) {
            for (int what = 0; what <= 4; what++) {
                due("member(" + m + ", " + what + ")", x.member(m, what), want[m][what]);
            }
        }
        sentence("NoSuchElementException: no such MEMBER, VECTOR (so below, ahead of others).");
        memberOf("member", (o, m) -> o.member(m, 0));
        memberOf("symbol", (o, m) -> o.symbol(m, 0));
        memberOf("dealer", (o, m) -> o.dealer(m, 0));
        memberOf("vector's member", (o, m) -> o.vector(0, m));
        memberOf("skewed", (o, m) -> o.skewed(m));
        memberOf("heard's member", (o, m) -> o.heard(m, 0, 0));
        memberOf("heard's other", (o, m) -> o.heard(0, m, 0));
        memberOf("voices", (o, m) -> o.voices(m, 0, 0));
        memberOf("sumBy", (o, m) -> o.sumBy(m, 97));
        memberOf("shelve", (o, m) -> o.shelve(m, 0, 0));
        memberOf("lacks", (o, m) -> o.lacks(m));
        memberOf("rounds", (o, m) -> o.rounds(m));
        memberOf("tainted", (o, m) -> o.tainted(m));
        memberOf("news' member", (o, m) -> o.news(m, 0) ? 1 : 0);
        memberOf("news' other", (o, m) -> o.news(0, m) ? 1 : 0);
        memberOf("span", (o, m) -> o.span(1, 1, 1, 1, 2, m));
        vectorOf("vector", (o, v) -> o.vector(v, 0));
        vectorOf("voices' vector", (o, v) -> o.voices(0, v, 0));
        vectorOf("sayers", (o, v) -> o.sayers(v, 0));
        refused(Sheet::full, NO_SUCH, "no member, another what", o -> o.member(4, 5));
        refused(Sheet::full, NO_SUCH, "no member, no fragment, no symbol", o -> o.symbol(4, 2));
        refused(Sheet::full, NO_SUCH, "no member, no symbol", o -> o.dealer(-1, 2));
        refused(Sheet::full, NO_SUCH, "no vector, no member", o -> o.vector(2, 4));
        refused(Sheet::full, NO_SUCH, "no member, another what of heard", o -> o.heard(4, 0, 2));
        refused(Sheet::full, NO_SUCH, "no other, another what of heard", o -> o.heard(0, 4, 2));
        refused(Sheet::full, NO_SUCH, "no member, another what of voices", o -> o.voices(4, 0, 2));
        refused(Sheet::full, NO_SUCH, "no vector, another what of voices", o -> o.voices(0, 2, 2));
        refused(Sheet::full, NO_SUCH, "no member, a wrong base", o -> o.sumBy(4, 0));
        refused(Sheet::full, NO_SUCH, "no member, kind, place", o -> o.shelve(4, 2, 7));
        refused(Sheet::full, NO_SUCH, "no member, no place", o -> o.shelve(4, 1, 7));
        refused(Sheet::full, NO_SUCH, "no member, rubble", o -> o.shelve(4, 1, 0));
        refused(Sheet::full, NO_SUCH, "no vector, another what of sayers", o -> o.sayers(2, 3));
        refused(Sheet::full, NO_SUCH, "no member, all else wrong in span", o -> o.span(1, 0, 0, -1, 3, 4));
    }

    private static void symbols() {
        sentence("Symbol j of the FRAGMENT that a MEMBER has.");
        SumDispersal x = made("group 1 0;stripes 3;symbol 0;symbol 96;symbol 50;", "deal 0;taint 0 0 1;");
        int[] want = {0, 96, 50};
        for (int j = 0; j < 3; j++) {
            due("symbol(0, " + j + ")", x.symbol(0, j), want[j]);
        }
        sentence("NullPointerException: it has none; IndexOutOfBoundsException: it has no symbol j.");
        refusedAll(Sheet::full, NULL, "one that was not dealt to", (o, j) -> o.symbol(1, j), -1, 0, 1, 2);
        refusedAll(() -> made("", "taint 0 0 1;deal 0;"), NULL, "one that was dealt a wrong one", (o, j) -> o.symbol(0, j), -1, 0, 1, 2);
        refusedAll(Sheet::full, INDEX, "one of two", (o, j) -> o.symbol(0, j), -1, 2, 3);
        refusedAll(() -> made("stripes 1;", "deal 0;"), INDEX, "one of one", (o, j) -> o.symbol(0, j), -1, 1, 2);
        refusedAll(() -> made("stripes 3;", "deal 0;"), INDEX, "one of three", (o, j) -> o.symbol(0, j), -1, 3);
    }

    private static void dealers() {
        sentence("Symbol j of the DEALER's FRAGMENT for a MEMBER.");
        SumDispersal x = made("group 1 0;stripes 3;symbol 0;symbol 96;symbol 50;", "deal 0;taint 0 1 1;");
        int[] want = {0, 0, 50};
        for (int j = 0; j < 3; j++) {
            due("dealer(0, " + j + ")", x.dealer(0, j), want[j]);
        }
        sentence("IndexOutOfBoundsException: there is no symbol j.");
        refusedAll(Sheet::full, INDEX, "one of two", (o, j) -> o.dealer(0, j), -1, 2, 3);
        refusedAll(() -> made("stripes 1;"), INDEX, "one of one", (o, j) -> o.dealer(0, j), -1, 1, 2);
        refusedAll(() -> made("stripes 3;"), INDEX, "one of three", (o, j) -> o.dealer(0, j), -1, 3);
    }

    private static void vectors() {
        sentence("The SUM of a MEMBER in a VECTOR (numbers from 0 on).");
        SumDispersal x = made(FOUR, "skew 0 3 999;skew 0 0 1;");
        int[][] want = {{206, 1081, 1956, 2831}, {206, 1081, 1956, 3830}, {207, 1081, 1956, 3830}};
        for (int v = 0; v < 3; v++) {
            for (int m = 0; m < 4; m++) {
                due("vector(" + v + ", " + m + ")", x.vector(v, m), want[v][m]);
            }
        }
        sentence("The number of the DEALER's VECTOR for a MEMBER.");
        int[] skewed = {2, 0, 0, 0};
        for (int m = 0; m < 4; m++) {
            due("skewed(" + m + ")", x.skewed(m), skewed[m]);
        }
        due("the last of eight", made("", "again 7[skew 3 0 1;];").skewed(3), 7);
    }

    private static void heard() {
        sentence("What a MEMBER HEARD of another one (or SAID itself): ECHO (what 0), READY (1) of which VECTOR; NONE.");
        SumDispersal x = made("traitor 1;traitor 2;", "skew 3 0 1;say1 0 0;say2 1 1;deal 0;hear0 1;hear0 2;hear2 1;");
        int[][] echo = {{0, 0, -1, -1}, {-1, 0, -1, -1}, {-1, 0, -1, -1}, {-1, -1, -1, -1}};
        int[][] ready = {{-1, -1, 1, -1}, {-1, -1, -1, -1}, {-1, -1, 1, -1}, {-1, -1, -1, -1}};
        for (int m = 0; m < 4; m++) {
            for (int other = 0; other < 4; other++) {
                due("heard(" + m + ", " + other + ", 0)", x.heard(m, other, 0), echo[m][other]);
                due("heard(" + m + ", " + other + ", 1)", x.heard(m, other, 1), ready[m][other]);
            }
        }
    }

    private static void voices() {
        sentence("Of how many MEMBERS (itself, too) a MEMBER HEARD ECHO (what 0), READY (1) of a VECTOR.");
        SumDispersal x = made("group 7 2;traitor 1;traitor 2;traitor 3;", "skew 6 0 1;say1 0 0;say2 1 0;say3 1 1;deal 0;hear0 1;hear0 2;hear0 3;");
        due("echo of 0: itself and 1", x.voices(0, 0, 0), 2);
        due("echo of 1: 2", x.voices(0, 1, 0), 1);
        due("ready of 0", x.voices(0, 0, 1), 0);
        due("ready of 1: 3", x.voices(0, 1, 1), 1);
        due("none", x.voices(4, 0, 0), 0);
        due("a traitor's own", x.voices(2, 1, 0), 1);
        SumDispersal all = made("group 7 0;", "deal0;deal1;deal2;deal3;deal4;deal5;deal6;", "hear6 0;hear6 1;hear6 2;hear6 3;hear6 4;hear6 5;");
        due("all seven", all.voices(6, 0, 0), 7);
        due("its own ready", all.voices(6, 0, 1), 1);
    }
}
