/** The promises 16 to 31: how all ends, fetches, guesses, sums, the shelf, polynomials. */
final class FetchSentences extends Sheet {
    static void run() {
        ends();
        fetch();
        file();
        trace();
        counts();
        fits();
        look();
        sumBy();
        sumsBeyond();
        shelve();
        shelf();
        coded();
        sayers();
        smooth();
        liar();
    }

    private static void ends() {
        sentence("Did ALL HEAR ALL: 0 MEMBERS that would be DONE (bits), 1 that would have said READY (bits), "
            + "2 how many turns there would be that change anything.");
        ends(new SumDispersal(), 0, 0, 0);
        ends(made("group 1 0;"), 0, 0, 0);
        ends(made("group 1 0;", "deal 0;"), 1, 1, 0);
        ends(made(FOUR, DEAL_FOUR), 15, 15, 2);
        ends(made(FOUR, "deal 0;deal 1;"), 0, 0, 1);
        ends(made(FOUR, "deal 0;deal 1;deal 2;"), 15, 15, 2);
        // The two that are up are ready by three echoes; of three readies each hears two.
        ends(made(FOUR, "deal 0;deal 1;deal 2;crash 2;crash 3;"), 0, 3, 2);
        ends(made(FOUR, DEAL_FOUR + "crash 0;crash 1;crash 2;crash 3;"), 0, 0, 0);
        ends(made(FOUR + "traitor 3;", "say 3 0 1;"), 0, 8, 1);
        ends(made(FOUR + "traitor 3;traitor 2;", "say 3 0 1;say 2 0 1;"), 3, 15, 2);
        ends(forged(), 7, 7, 0);
        SumDispersal done = forged();
        work(done, "crash 0;");
        ends(done, 7, 7, 0);
        ends(made("group 7 2;", "deal0;deal1;deal2;deal3;deal4;deal5;deal6;"), 127, 127, 2);
    }

    private static void ends(SumDispersal x, int done, int ready, int turns) {
        due("ends(0)", x.ends(0), done);
        due("ends(1)", x.ends(1), ready);
        due("ends(2)", x.ends(2), turns);
    }

    private static void fetch() {
        sentence("FETCH of some MEMBERS: 0 2 FOUND, 1 VOID, 0 TOO FEW, 1 the VECTOR by which (also if there are TOO FEW with FRAGMENTS; "
            + "NONE without one), 2 how many stores are OPENED (0 without a VECTOR).");
        fetch(forged(), 15, 2, 0, 2);
        fetch(forged(), 14, 2, 0, 2);
        fetch(forged(), 10, 0, -1, 0);
        fetch(forged(), 0, 0, -1, 0);
        fetch(skewedForAll(), 15, 1, 1, 2);
        fetch(skewedForAll(), 9, 0, 1, 2);
        fetch(skewedForAll(), 12, 0, 1, 2);
        fetch(skewedForAll(), 8, 0, -1, 0);
        fetch(new SumDispersal(), 15, 0, -1, 0);
        fetch(made("group 1 0;", "deal 0;"), 1, 2, 0, 1);
        fetch(made("group 7 0;stripes 1;symbol 5;traitor 5;", "deal 6;say 5 0 1;hear 0 5;"), 127, 2, 0, 7);
        fetch(made("group 7 0;stripes 1;symbol 5;traitor 5;", "deal 6;say 5 0 1;hear 0 5;"), 63, 0, 0, 6);
        fetch(made("group 1 0;traitor 0;", "deal 0;say 0 0 1;"), 1, 0, -1, 0);
        sentence("IllegalArgumentException: bits beyond N (so below).");
        setOf("fetch", (o, members) -> o.fetch(members, 0));
        setOf("file", (o, members) -> o.file(members, 0));
        setOf("trace", (o, members) -> o.trace(members, 0));
        setOf("smooth", (o, members) -> o.smooth(members) ? 1 : 0);
        setOf("liar", (o, members) -> o.liar(members));
        setOf("loose", (o, members) -> o.loose(members));
        setOf("given", (o, members) -> o.given(members, 0));
    }

    private static void fetch(SumDispersal x, int members, int end, int vector, int opened) {
        due("fetch(" + members + ", 0)", x.fetch(members, 0), end);
        due("fetch(" + members + ", 1)", x.fetch(members, 1), vector);
        due("fetch(" + members + ", 2)", x.fetch(members, 2), opened);
    }

    private static void file() {
        sentence("Symbol i (0 to 8) of the file that FETCH of some MEMBERS finds (0 beyond K S); NONE: it is not FOUND.");
        SumDispersal x = forged();
        int[] file = {10, 2, 90, 9, 0, 0, 0, 0, 0};
        for (int i = 0; i <= 8; i++) {
            due("found: file(15, " + i + ")", x.file(15, i), file[i]);
            due("too few: file(9, " + i + ")", x.file(9, i), -1);
            due("void: file(15, " + i + ")", skewedForAll().file(15, i), -1);
        }
        SumDispersal one = made("group 1 0;stripes 1;symbol 96;symbol 95;symbol 94;", "deal 0;");
        due("K S is 1", one.file(1, 0), 96);
        for (int i = 1; i <= 8; i++) {
            due("beyond K S: " + i, one.file(1, i), 0);
        }
        SumDispersal three = made("group 1 0;stripes 3;symbol 96;symbol 95;symbol 94;symbol 93;", "deal 0;");
        due("K S is 3", three.file(1, 2), 94);
        due("beyond it", three.file(1, 3), 0);
        SumDispersal less = made("group 1 0;stripes 3;symbol 96;symbol 95;symbol 94;", "deal 0;");
        due("K S is 3", less.file(1, 2), 94);
        dispersal(less, "group 1 0;stripes 1;symbol 93;");
        work(less, "deal 0;");
        due("K S is 1 then", less.file(1, 0), 93);
        due("nothing is left of what was found ahead", less.file(1, 2), 0);
        refusedAll(Sheet::forged, ARGUMENT, "found, symbol", (o, i) -> o.file(15, i), -1, 9);
        refusedAll(Sheet::full, ARGUMENT, "not found, symbol", (o, i) -> o.file(15, i), -1, 9);
    }

    private static void trace() {
        sentence("The i-th (from 0 on) of TRACE of FETCH of some MEMBERS; 0: there are not so many.");
        int[] want = {1, 2, -2, -1, 0, 0};
        for (int i = 0; i < want.length; i++) {
            due("trace(15, " + i + ")", forged().trace(15, i), want[i]);
            due("trace(9, " + i + ")", forged().trace(9, i), 0);
        }
        SumDispersal all = made("group 7 0;stripes 1;symbol 5;traitor 5;", "deal 6;say 5 0 1;hear 0 5;");
        due("the seventh", all.trace(127, 6), 7);
        due("the eighth", all.trace(127, 7), -7);
        due("the fourteenth", all.trace(127, 13), -1);
        due("a fifteenth", all.trace(127, 14), 0);
        due("far behind", all.trace(127, Integer.MAX_VALUE), 0);
        sentence("IllegalArgumentException: i below 0.");
        for (int i : new int[] {-1, -2, -14, Integer.MIN_VALUE}) {
            refused(Sheet::forged, ARGUMENT, "trace(15, " + i + ")", o -> o.trace(15, i));
            refused(Sheet::full, ARGUMENT, "trace(0, " + i + ")", o -> o.trace(0, i));
        }
    }

    private static void counts() {
        sentence("FEWEST.");
        due("none", new SumDispersal().fewest(), -1);
        due("the least", made("group 7 0;stripes 1;symbol 5;", "deal 6;").fewest(), -1);
        due("one of seven", made("group 7 0;stripes 1;symbol 5;traitor 5;", "deal 6;say 5 0 1;hear 6 5;").fewest(), 1);
        due("two of seven", made("group 7 0;stripes 1;symbol 5;traitor 5;", "deal 6;say 5 0 1;hear 0 5;").fewest(), 2);
        sentence("SAFE.");
        due("none", new SumDispersal().safe(), 0);
        due("0 or 6", made("group 7 0;stripes 1;symbol 5;traitor 5;", "deal 6;say 5 0 1;hear 0 5;").safe(), 1);
        due("two", forged().safe(), 2);
        sentence("UNLIKE.");
        due("none", new SumDispersal().unlike(), 0);
        due("one", forged().unlike(), 1);
        due("one of one", made("group 1 0;", "deal 0;").unlike(), 1);
    }

    private static void fits() {
        sentence("FITS: 0 how many, 1 the first (NONE).");
        SumDispersal x = made("group 7 2;");
        due("without a book: all", x.fits(0), 128);
        due("none is the first", x.fits(1), 0);
        book(x, "6 3;");
        // Five or more echoes: 21 + 7 + 1 sets.
        due("five or more", x.fits(0), 29);
        due("the least of them", x.fits(1), 31);
        book(x, "6 2;");
        due("no set", x.fits(0), 0);
        due("no first", x.fits(1), -1);
        book(x, "0 0;1 0;2 0;3 0;4 0;5 0;6 1;");
        due("one set", x.fits(0), 1);
        due("of the last alone", x.fits(1), 64);
    }

    private static void look() {
        sentence("LOOK: 0 the MEMBER, 1 how many are left at the worst; NONE both: all are in lines.");
        SumDispersal x = made("group 2 0;");
        // Of four sets none makes both silent, one each makes one of them echo alone, both make all done.
        due("the member", x.look(0), 0);
        due("left", x.look(1), 2);
        book(x, "0 0;");
        due("the other one", x.look(0), 1);
        due("one left", x.look(1), 1);
        book(x, "0 0;1 0;");
        due("all in lines", x.look(0), -1);
        due("all in lines, 1", x.look(1), -1);
        book(x, "0 2;1 2;");
        due("all in lines, none right", x.look(0), -1);
        due("all in lines, none right, 1", x.look(1), -1);
        book(x, "1 2;");
        due("none right", x.look(0), 0);
        due("none left", x.look(1), 0);
        due("seven, the last in no line", lookOfSeven(), 6);
    }

    private static int lookOfSeven() {
        SumDispersal x = made("group 7 2;");
        book(x, "0 0;1 0;2 0;3 0;4 0;5 0;");
        return x.look(0);
    }

    private static void sumBy() {
        sentence("SUM of the FRAGMENT that a MEMBER has, by another base (1 to 99,999): symbol 0, base times symbol 1, "
            + "base times base times symbol 2 (as far as there are symbols; the powers of these alone are reckoned).");
        SumDispersal x = made("group 1 0;stripes 3;symbol 7;symbol 5;symbol 1;", "deal 0;");
        due("by 1", x.sumBy(0, 1), 13);
        due("by 2", x.sumBy(0, 2), 21);
        due("by 97", x.sumBy(0, 97), x.vector(0, 0));
        due("by 10,000", x.sumBy(0, 10_000), 100_050_007);
        due("two symbols, by 99,999", made("group 1 0;stripes 2;symbol 96;symbol 96;", "deal 0;").sumBy(0, 99_999), 9_600_000);
        due("one symbol, by 99,999", made("group 1 0;stripes 1;symbol 96;symbol 96;", "deal 0;").sumBy(0, 99_999), 96);
        SumDispersal four = made(FOUR, DEAL_FOUR);
        due("of 1", four.sumBy(1, 1000), 11_014);
        due("of 3", four.sumBy(3, 1000), 29_018);
        due("of a forged one", made("group 1 0;stripes 2;traitor 0;", "deal 0;forge 0 1 3;").sumBy(0, 10), 30);
        refusedAll(Sheet::full, ARGUMENT, "base", (o, base) -> base >= 1 && base <= 99_999 ? o.sumBy(0, 0) : o.sumBy(0, base), 0, -1, 100_000);
        refused(Sheet::full, ARGUMENT, "a wrong base ahead of no fragment", o -> o.sumBy(1, 0));
        refused(Sheet::full, ARGUMENT, "a base too great ahead of no fragment", o -> o.sumBy(1, 100_000));
    }

    private static void sumsBeyond() {
        sentence("NullPointerException: it has none; ArithmeticException: a power, a product or the sum is beyond 32 bits.");
        for (int base : new int[] {1, 97, 99_999}) {
            refused(Sheet::full, NULL, "not dealt to, by " + base, o -> o.sumBy(1, base));
            refused(() -> made("stripes 3;", "taint 0 0 1;deal 0;"), NULL, "dealt a wrong one, by " + base, o -> o.sumBy(0, base));
        }
        due("46,340 twice, of 0", sum(0, 0, 0, 46_340), 0);
        beyond("a power, of 0", 0, 0, 0, 46_341);
        beyond("a power, of 0, by the greatest base", 96, 96, 0, 99_999);
        beyond("a power that would wrap to less, 65,536", 0, 0, 0, 65_536);
        due("a product", sum(0, 0, 2, 32_767), 2 * 32_767 * 32_767);
        beyond("a product", 0, 0, 2, 32_768);
        due("a product of 96", sum(0, 0, 96, 4_729), 96 * 4_729 * 4_729);
        beyond("a product of 96", 0, 0, 96, 4_730);
        // 2 32,765 32,765, and 12 32,765, and 17 are just 2,147,483,647.
        due("the greatest sum", sum(17, 12, 2, 32_765), Integer.MAX_VALUE);
        beyond("the sum, by 1", 18, 12, 2, 32_765);
        beyond("the sum", 17, 13, 2, 32_765);
        due("the greatest base that all 96 bear", sum(96, 96, 96, 4_729), 96 + 96 * 4_729 + 96 * 4_729 * 4_729);
        due("46,338", sum(7, 5, 1, 46_338), 7 + 5 * 46_338 + 46_338 * 46_338);
        beyond("46,339", 7, 5, 1, 46_339);
    }

    private static SumDispersal three(int... symbols) {
        return made("group 1 0;stripes 3;symbol " + symbols[0] + ";symbol " + symbols[1] + ";symbol " + symbols[2] + ";", "deal 0;");
    }

    private static int sum(int zero, int one, int two, int base) {
        return three(zero, one, two).sumBy(0, base);
    }

    private static void beyond(String what, int zero, int one, int two, int base) {
        refused(() -> three(zero, one, two), ARITHMETIC, what + " by " + base, o -> o.sumBy(0, base));
    }

    private static void shelve() {
        sentence("A thing comes to a place of the SHELF: a copy of the FRAGMENT that a MEMBER has (kind 0; has it none, nothing is there then), "
            + "or rubble of a MEMBER (1): 1.");
        SumDispersal x = made(FOUR + "traitor 3;", "deal 0;deal 3;");
        due("kind 0", x.shelve(3, 0, 0), 1);
        due("there", x.shelf(0), 2831);
        work(x, "forge 3 0 1;");
        due("a copy", x.shelf(0), 2831);
        due("what is there is put away", x.shelve(0, 0, 0), 1);
        due("of 0", x.shelf(0), 206);
        due("it has none", x.shelve(1, 0, 0), 1);
        due("nothing is there then", x.shelf(0), -1);
        due("nothing where nothing was", x.shelve(1, 0, 6), 1);
        due("nothing", x.shelf(6), -1);
        due("of one that is not up", downed().shelve(0, 0, 3), 1);
        refusedAll(Sheet::full, ARGUMENT, "kind", (o, kind) -> o.shelve(0, kind, 0), -1, 2);
        refusedAll(Sheet::full, ARGUMENT, "kind ahead of place", (o, kind) -> o.shelve(0, kind, 7), -1, 2);
        sentence("IndexOutOfBoundsException: no such place (0 to 6; ahead of the next one); ArrayStoreException: rubble (what was there stays).");
        refusedAll(Sheet::full, INDEX, "place of a fragment", (o, place) -> o.shelve(0, 0, place), -1, 7);
        refusedAll(Sheet::full, INDEX, "place of nothing", (o, place) -> o.shelve(1, 0, place), -1, 7);
        refusedAll(Sheet::full, INDEX, "place of rubble", (o, place) -> o.shelve(0, 1, place), -1, 7);
        for (int place = 0; place < 7; place++) {
            int there = place;
            refused(Sheet::full, STORE, "rubble at " + place, o -> o.shelve(0, 1, there));
        }
        sentence("(No WORK, no IMAGE keeps SHELF.)");
        SumDispersal y = made(FOUR, "deal 0;deal 1;");
        y.shelve(0, 0, 0);
        y.image();
        work(y, "deal 2;");
        y.shelve(1, 0, 0);
        y.shelve(2, 0, 1);
        y.undo();
        due("undo leaves it", y.shelf(0), 1081);
        due("and the other", y.shelf(1), 1956);
        y.restore();
        due("restore leaves it", y.shelf(0), 1081);
        due("and the other", y.shelf(1), 1956);
        y.undo();
        due("though nobody has a fragment now", y.shelf(0) + y.told(7), 1081);
    }

    private static SumDispersal downed() {
        return made(FOUR, "deal 0;crash 0;");
    }

    private static void shelf() {
        sentence("SUM of what is at a place of the SHELF (as it was when it came there); NONE: nothing is.");
        SumDispersal x = made("group 4 1;stripes 3;traitor 0;", "deal 0;");
        x.shelve(0, 0, 0);
        due("a sum of 0 is something", x.shelf(0), 0);
        work(x, "forge 0 0 96;forge 0 1 96;forge 0 2 96;");
        x.shelve(0, 0, 6);
        due("as it was", x.shelf(0), 0);
        due("the greatest", x.shelf(6), 912_672);
        for (int place = 1; place < 6; place++) {
            due("nothing at " + place, x.shelf(place), -1);
        }
        sentence("IndexOutOfBoundsException: no such place.");
        refusedAll(Sheet::full, INDEX, "shelf", (o, place) -> o.shelf(place), -1, 7);
    }

    private static void coded() {
        sentence("What the polynomial of stripe j of the file tells at x (0 to 96): what is left of c0 + c1 x + c2 x x by 97 (as far as there are).");
        SumDispersal x = made("group 7 2;stripes 2;symbol 1;symbol 2;symbol 3;symbol 94;symbol 95;symbol 96;", "taint 0 0 1;");
        for (int at = 0; at <= 96; at++) {
            due("coded(" + at + ", 0)", x.coded(at, 0), (1 + 2 * at + 3 * at * at) % 97);
            due("coded(" + at + ", 1)", x.coded(at, 1), (94 + 95 * at + 96 * at * at) % 97);
        }
        due("c0 alone", made("group 7 0;stripes 3;symbol 4;symbol 5;symbol 6;").coded(96, 2), 6);
        refusedAll(Sheet::full, ARGUMENT, "x", (o, at) -> o.coded(at, 0), -1, 97);
        sentence("IllegalArgumentException: also if there is no stripe j.");
        for (int s = 1; s <= 3; s++) {
            String stripes = "stripes " + s + ";";
            due("the last of " + s, made(stripes).coded(0, s - 1), 0);
            refusedAll(() -> made(stripes), ARGUMENT, "stripe of " + s, (o, j) -> o.coded(0, j), -1, s);
        }
    }

    private static void sayers() {
        sentence("MEMBERS (bits) that have said ECHO (what 0), READY (1) of a VECTOR last, that are DONE by it (2).");
        SumDispersal x = made("group 7 2;traitor 0;traitor 6;", "skew 1 0 1;skew 2 0 1;deal0;deal1;deal2;deal3;deal4;say0 1 0;say6 0 0;say6 1 0;say6 0 1;");
        due("echo of 0", x.sayers(0, 0), 8 + 16);
        due("echo of 1", x.sayers(1, 0), 1 + 2 + 4 + 64);
        due("ready of 0", x.sayers(0, 1), 64);
        due("ready of 1", x.sayers(1, 1), 0);
        due("done by 0", x.sayers(0, 2), 0);
        SumDispersal all = made("group 7 0;", "deal0;deal1;deal2;deal3;deal4;deal5;deal6;",
            "hear6 0;hear6 1;hear6 2;hear6 3;hear6 4;hear6 5;hear0 6;hear1 6;hear2 6;hear3 6;hear4 6;hear5 6;");
        for (int what = 0; what <= 2; what++) {
            due("all seven, " + what, all.sayers(0, what), 127);
        }
        SumDispersal down = made("traitor 1;", "deal 0;say 1 0 0;crash 0;crash 1;");
        due("those that are not up, too", down.sayers(0, 0), 3);
    }

    private static int smooth(SumDispersal x, int members) {
        return x.smooth(members) ? 1 : 0;
    }

    /** T 2, three symbols; 5 and 6 are forged. */
    private static SumDispersal bent() {
        return made("group 7 2;stripes 2;symbol 1;symbol 2;symbol 3;symbol 4;symbol 5;symbol 6;traitor 5;traitor 6;",
            "deal0;deal1;deal2;deal3;deal5;deal6;forge5 0 1;forge6 1 1;crash 0;");
    }

    private static void smooth() {
        sentence("Whether the FRAGMENTS that told MEMBERS have (UP or not) lie, stripe by stripe, on polynomials of K symbols "
            + "(m's at m + 1; so if they are K or fewer).");
        SumDispersal x = bent();
        due("none", smooth(x, 0), 1);
        due("K, one forged", smooth(x, 1 + 2 + 32), 1);
        due("K, two forged", smooth(x, 1 + 32 + 64), 1);
        due("K and 1, all right, one not up", smooth(x, 15), 1);
        due("K and 1, stripe 0 forged", smooth(x, 7 + 32), 0);
        due("K and 1, stripe 1 forged", smooth(x, 7 + 64), 0);
        due("K and 1, of which one has none", smooth(x, 3 + 16 + 32), 1);
        due("all", smooth(x, 127), 0);
        SumDispersal line = made(FOUR + "traitor 3;", DEAL_FOUR);
        due("K 2: all four", smooth(line, 15), 1);
        work(line, "forge 3 1 96;");
        due("K 2: two", smooth(line, 9), 1);
        due("K 2: three", smooth(line, 13), 0);
        SumDispersal flat = made("group 3 0;stripes 1;symbol 5;traitor 2;", "deal0;deal1;deal2;");
        due("K 1: alike", smooth(flat, 7), 1);
        work(flat, "forge 2 0 1;");
        due("K 1: one", smooth(flat, 4), 1);
        due("K 1: two", smooth(flat, 5), 0);
        SumDispersal deep = made("group 4 1;stripes 3;symbol 1;symbol 2;symbol 3;symbol 4;symbol 5;symbol 6;traitor 0;", DEAL_FOUR);
        due("three stripes", smooth(deep, 15), 1);
        work(deep, "forge 0 2 1;");
        due("the third stripe forged", smooth(deep, 15), 0);
        SumDispersal moved = made("group 4 1;stripes 1;symbol 96;symbol 96;", DEAL_FOUR);
        due("what is left by 97 counts", smooth(moved, 15), 1);
    }

    private static void liar() {
        sentence("Told MEMBERS that are not smooth(): the first of them that has a FRAGMENT and without which the others are; "
            + "NONE: there is none, or they are.");
        SumDispersal x = bent();
        due("they are smooth", x.liar(15), -1);
        due("K are smooth", x.liar(7), -1);
        due("none told", x.liar(0), -1);
        due("5 of five", x.liar(15 + 32), 5);
        due("6 of five", x.liar(15 + 64), 6);
        due("any of K and 1: the first", x.liar(7 + 32), 0);
        due("the first told", x.liar(14 + 64), 1);
        due("one without a fragment is not asked", x.liar(14 + 16 + 64), 1);
        due("two lie", x.liar(127), -1);
        due("two lie, of K and 2", x.liar(7 + 96), -1);
        SumDispersal first = made(FOUR + "traitor 0;", "deal1;deal2;deal3;deal0;forge 0 0 1;");
        due("0 itself", first.liar(15), 0);
        // 0 has none: it is not the first, though without it nothing is other.
        SumDispersal without = made(FOUR + "traitor 3;", "deal1;deal2;deal3;forge 3 0 1;");
        due("0 has no fragment", without.liar(15), 1);
    }
}
