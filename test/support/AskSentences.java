import java.util.ArrayList;
import java.util.Arrays;
import java.util.List;

/** The passage marked 3: what is asked, and nothing stays changed. */
final class AskSentences extends Sheet {
    static void run() {
        nothingStays();
        allHearAll();
        fetches();
        stores();
        ends();
        traces();
        fewest();
        safe();
        unlike();
        fits();
        looks();
        shelves();
        storms();
        draws();
    }

    private static void nothingStays() {
        sentence("Asked, nothing stays changed.");
        String[] names = {"told", "member", "symbol", "dealer", "vector", "skewed", "heard", "voices", "ends", "fetch", "file", "trace",
            "fewest", "safe", "unlike", "fits", "look", "sumBy", "shelf", "coded", "sayers", "smooth", "liar", "lacks", "rounds", "doom",
            "tainted", "news", "loose", "first", "given", "storm", "span", "status", "count", "fault"};
        Call[] calls = {o -> o.told(10), o -> o.member(0, 0), o -> o.symbol(0, 0), o -> o.dealer(1, 0), o -> o.vector(1, 2),
            o -> o.skewed(2), o -> o.heard(0, 3, 0), o -> o.voices(0, 1, 0), o -> o.ends(0), o -> o.fetch(15, 0), o -> o.file(15, 0),
            o -> o.trace(15, 0), o -> o.fewest(), o -> o.safe(), o -> o.unlike(), o -> o.fits(0), o -> o.look(0), o -> o.sumBy(0, 97),
            o -> o.shelf(2), o -> o.coded(5, 0), o -> o.sayers(1, 0), o -> o.smooth(15) ? 1 : 0, o -> o.liar(15), o -> o.lacks(0),
            o -> o.rounds(0), o -> o.doom(0), o -> o.tainted(0), o -> o.news(1, 0) ? 1 : 0, o -> o.loose(15), o -> o.first(0),
            o -> o.given(15, 0), o -> o.storm(3, 96, 16, 2), o -> o.span(3, 5, 96, 16, 0, 0), o -> o.status(0), o -> o.count(0), o -> o.fault()};
        for (int i = 0; i < calls.length; i++) {
            unchanged(Sheet::full, names[i], calls[i]);
            unchanged(Sheet::fresh, names[i] + " of a new one", i == 2 || i == 17 ? calls[0] : i == 4 || i == 7 || i == 20 ? calls[1] : calls[i]);
        }
    }

    private static void allHearAll() {
        sentence("ALL HEAR ALL: hear B A for each B, and each A, by numbers, again and again, until one such turn changes nothing.");
        SumDispersal x = made(FOUR, DEAL_FOUR);
        // Turn 1: 0 and 1 hear echoes (ready); 2 hears these readies, too, and is done; so does 3; turn 2: 0 and 1 are.
        int[] rounds = {2, 2, 1, 1};
        for (int m = 0; m < 4; m++) {
            due("by numbers: rounds(" + m + ")", x.rounds(m), rounds[m]);
        }
        due("turns that change anything", x.ends(2), 2);
        SumDispersal y = made(FOUR, "deal 0;");
        due("one echo is heard in one turn", y.ends(2), 1);
        due("nothing to hear", new SumDispersal().ends(2), 0);
        due("one alone", made("group 1 0;", "deal 0;").ends(2), 0);
        due("those that are not up hear nothing", made("", "deal 0;crash 1;crash 2;crash 3;").ends(2), 0);
        due("of one that is not up", made("", "deal 0;crash 0;").ends(2), 1);
        // Five echoes make ready. 4 hears four readies and says the fifth; 3 has heard but three then.
        SumDispersal seven = made("group 7 2;", "deal 0;deal 1;deal 2;deal 3;deal 4;");
        int[] behind = {2, 2, 2, 2, 1, 1, 1};
        int[] told = new int[7];
        for (int m = 0; m < 7; m++) {
            told[m] = seven.rounds(m);
        }
        dueText("rounds of seven", Arrays.toString(told), Arrays.toString(behind));
        due("all done", seven.ends(0), 127);
    }

    private static void fetches() {
        sentence("FETCH of some MEMBERS (bits): asked are those of them that are UP.");
        SumDispersal x = forged();
        due("all up", x.fetch(3, 0), 2);
        work(x, "crash 1;");
        due("1 is not up: 0 alone", x.fetch(3, 0), 0);
        due("no vector", x.fetch(3, 1), -1);
        due("0 and 2", x.fetch(7, 0), 2);
        due("1 is not opened", x.trace(7, 1), 3);
        due("none", x.fetch(0, 0), 0);
        work(x, "crash 0;crash 2;crash 3;");
        due("nobody is up", x.fetch(15, 0), 0);
        due("nobody is opened", x.trace(15, 0), 0);
        sentence("It is by the VECTOR v of least number by which T and 1 or more of these are DONE (traitors are DONE by none); "
            + "without one there are TOO FEW.");
        due("T 0: one done", made("group 2 0;", "deal 0;deal 1;hear 0 1;").fetch(1, 1), 0);
        due("T 0: none done", made("group 2 0;", "deal 0;deal 1;hear 0 1;").fetch(2, 1), -1);
        SumDispersal four = forged();
        due("T 1: one done and a traitor", four.fetch(9, 1), -1);
        due("too few", four.fetch(9, 0), 0);
        due("nothing opened", four.fetch(9, 2), 0);
        due("T 1: two done", four.fetch(3, 1), 0);
        due("T 1: three done", four.fetch(7, 1), 0);
        SumDispersal seven = doneOfSeven();
        due("five are done", seven.told(8), 31);
        due("T 2: two done", seven.fetch(3, 1), -1);
        due("T 2: two done, and two not", seven.fetch(99, 0), 0);
        due("T 2: three done", seven.fetch(7, 1), 0);
        due("T 2: three done, found", seven.fetch(28, 0), 2);
        SumDispersal two = twoFiles();
        due("0 is done by 3", two.member(0, 4), 3);
        due("1 is done by 0", two.member(1, 4), 0);
        due("the least number", two.fetch(3, 1), 0);
        due("the file by 0", two.file(3, 0), 10);
        due("by 3 alone", two.fetch(1, 1), 3);
        due("the file by 3", two.file(1, 0), 12);
        due("a traitor is done by none", two.fetch(4, 1), -1);
    }

    /** 0 to 4 of seven are done. */
    private static SumDispersal doneOfSeven() {
        SumDispersal x = made("group 7 2;stripes 3;symbol 95;symbol 0;symbol 7;symbol 1;symbol 96;symbol 50;symbol 0;symbol 0;symbol 31;",
            "deal0;deal1;deal2;deal3;deal4;deal5;deal6;");
        for (int i = 0; i < 3; i++) {
            work(x, "hear0 1;hear0 2;hear0 3;hear0 4;hear0 5;hear2 0;hear2 1;hear2 3;hear2 4;hear2 5;hear4 0;hear4 1;hear4 2;hear4 3;hear4 5;");
            work(x, "hear1 0;hear1 2;hear1 3;hear1 4;hear1 5;hear3 0;hear3 1;hear3 2;hear3 4;hear3 5;");
        }
        return x;
    }

    /** Without trust: 0 has 12 and is done by vector 3 (12 for all), 1 has 10 and is done by vector 0. */
    private static SumDispersal twoFiles() {
        return made("group 3 0;stripes 1;symbol 10;traitor 2;",
            "skew0 0 2;skew0 1 2;skew0 2 2;taint0 0 2;deal0;deal1;say2 3 1;hear0 2;say2 0 1;hear1 2;");
    }

    private static void stores() {
        sentence("Then their stores are OPENED, by numbers, each within the one ahead of it, until K of these have a FRAGMENT "
            + "whose SUM is theirs in v; the last one OPENED is SHUT first, and so on, whatever comes.");
        SumDispersal x = forged();
        due("two are enough of four", x.fetch(15, 2), 2);
        dueText("by numbers", trace(x, 15), "[1, 2, -2, -1]");
        dueText("those that are asked alone", trace(x, 6), "[2, 3, -3, -2]");
        SumDispersal lost = made(FOUR + "traitor 0;", "deal 1;deal 2;deal 3;", HEAR_FOUR, HEAR_FOUR);
        dueText("0 has no fragment", trace(lost, 15), "[1, 2, 3, -3, -2, -1]");
        SumDispersal bad = made(FOUR + "traitor 0;", DEAL_FOUR + "forge 0 1 1;", HEAR_FOUR, HEAR_FOUR);
        dueText("0 has a forged one", trace(bad, 15), "[1, 2, 3, -3, -2, -1]");
        due("three opened", bad.fetch(15, 2), 3);
        work(bad, "forge 0 1 96;");
        dueText("forged back it counts, though not done", trace(bad, 13), "[1, 3, -3, -1]");
        dueText("void: shut as well", trace(skewedForAll(), 15), "[1, 2, -2, -1]");
        dueText("too few fragments: shut as well", trace(skewedForAll(), 9), "[1, 4, -4, -1]");
        dueText("without a vector nothing is opened", trace(skewedForAll(), 8), "[]");
        dueText("K 3 of seven", trace(doneOfSeven(), 127), "[1, 2, 3, -3, -2, -1]");
        dueText("K 1", trace(twoFiles(), 3), "[1, 2, -2, -1]");
        dueText("K 1, the first has it", trace(twoFiles(), 2), "[2, -2]");
        // All seven are opened: the last two have the only fragments by vector 0, K is 1 but for the last.
        SumDispersal last = made("group 7 0;stripes 1;symbol 5;traitor 5;", "deal 6;say 5 0 1;hear 0 5;");
        dueText("all seven", trace(last, 127), "[1, 2, 3, 4, 5, 6, 7, -7, -6, -5, -4, -3, -2, -1]");
        due("found by the last", last.fetch(127, 0), 2);
        dueText("all but the last: too few", trace(last, 63), "[1, 2, 3, 4, 5, 6, -6, -5, -4, -3, -2, -1]");
        due("too few", last.fetch(63, 0), 0);
    }

    private static String trace(SumDispersal x, int members) {
        List<Integer> steps = new ArrayList<>();
        for (int i = 0; x.trace(members, i) != 0; i++) {
            steps.add(x.trace(members, i));
        }
        return steps.toString();
    }

    private static void ends() {
        sentence("There are TOO FEW, if there are not K such; else the polynomials through these are found (of K symbols, as in section 2), "
            + "and all N FRAGMENTS coded anew by them: if their SUMS are just those of v the file is FOUND, its symbols as there, else it is VOID.");
        SumDispersal x = skewedForAll();
        due("one fragment of K 2", x.fetch(9, 0), 0);
        due("two, but the sum of 3 is another", x.fetch(3, 0), 1);
        for (int m = 0; m < 4; m++) {
            StringBuilder skews = new StringBuilder();
            for (int to = 0; to < 4; to++) {
                skews.append("skew ").append(to).append(' ').append(m).append(" 1;");
            }
            due("one sum off, of " + m, made(FOUR, skews + DEAL_FOUR, HEAR_FOUR, HEAR_FOUR).fetch(15, 0), 1);
        }
        due("all sums right", made(FOUR, DEAL_FOUR, HEAR_FOUR, HEAR_FOUR).fetch(15, 0), 2);
        SumDispersal seven = doneOfSeven();
        int[] file = {95, 0, 7, 1, 96, 50, 0, 0, 31};
        for (int members : new int[] {7, 11, 19, 13, 21, 25, 14, 22, 26, 28, 127}) {
            for (int i = 0; i < 9; i++) {
                due("file(" + members + ", " + i + ")", seven.file(members, i), file[i]);
            }
        }
        due("two of K 3", seven.file(3, 0), -1);
        // The last two have fragments; what is coded anew for 0, which was never dealt to, counts as well.
        SumDispersal off = made(FOUR, "skew0 0 1;skew1 0 1;skew2 0 1;skew3 0 1;deal1;deal2;deal3;", HEAR_FOUR, HEAR_FOUR);
        due("the sum of one without a fragment is off", off.fetch(14, 0), 1);
    }

    private static void traces() {
        sentence("TRACE: for each store OPENED its MEMBER's number and 1, for each SHUT that below 0, in order.");
        SumDispersal x = made("group 1 0;", "deal 0;");
        due("opened", x.trace(1, 0), 1);
        due("shut", x.trace(1, 1), -1);
        due("no more", x.trace(1, 2), 0);
        SumDispersal seven = made("group 7 0;traitor 0;", "deal 6;say 0 0 1;hear 6 0;");
        due("the greatest", seven.trace(64, 0), 7);
        due("below 0", seven.trace(64, 1), -7);
    }

    private static void fewest() {
        sentence("FEWEST: how few MEMBERS, told as bits, FETCH finds not TOO FEW; NONE.");
        due("none", new SumDispersal().fewest(), -1);
        due("one", made("group 1 0;", "deal 0;").fewest(), 1);
        due("two", forged().fewest(), 2);
        due("three", doneOfSeven().fewest(), 3);
        due("void is not too few", skewedForAll().fewest(), 2);
        SumDispersal x = forged();
        work(x, "crash 0;");
        due("two are left", x.fewest(), 2);
        work(x, "crash 1;");
        due("one is left", x.fewest(), -1);
        // 1 and 2 are done, 2 has no fragment; the traitor 3 has one.
        SumDispersal more = made(FOUR + "traitor 3;traitor 0;", "deal 3;deal 1;say 3 0 0;say 3 0 1;say 0 0 1;say 0 0 0;",
            "hear 1 3;hear 1 0;hear 2 3;hear 2 0;hear 2 1;");
        due("three to ask of K 2", more.fewest(), 3);
        work(more, "forge 3 0 1;");
        due("none, forged", more.fewest(), -1);
        due("1 alone", lesserVectorHides().fewest(), 1);
        // 1, 2, 4, 5 are done by the readies of 0, 3, 6; 2 has no fragment. By bits 1, 2, 3 come ahead of 1, 4.
        SumDispersal ahead = made("group 7 1;symbol 5;traitor 0;traitor 3;traitor 6;", "deal1;deal3;deal4;deal5;say0 0 1;say3 0 1;say6 0 1;",
            "hear1 0;hear1 3;hear1 6;hear2 0;hear2 3;hear2 6;hear4 0;hear4 3;hear4 6;hear5 0;hear5 3;hear5 6;");
        due("1 and 2 are too few", ahead.fetch(6, 0), 0);
        due("1, 2, 3 are not", ahead.fetch(14, 0), 2);
        due("but two are, of greater bits", ahead.fewest(), 2);
    }

    /** 0 is done by vector 0 without a fragment; 1 by vector 1, by which alone its fragment is right. */
    private static SumDispersal lesserVectorHides() {
        return made("group 3 0;stripes 1;symbol 10;traitor 2;", "skew1 1 1;taint1 0 1;deal1;say2 0 1;hear0 2;say2 1 1;hear1 2;");
    }

    private static void safe() {
        sentence("SAFE: how few MEMBERS that are UP would have to crash now so that no FETCH was anything but TOO FEW (0: so now).");
        due("so now", new SumDispersal().safe(), 0);
        due("one of one", made("group 1 0;", "deal 0;").safe(), 1);
        SumDispersal x = forged();
        due("two of three", x.safe(), 2);
        work(x, "crash 3;");
        due("the traitor is none of them", x.safe(), 2);
        work(x, "crash 2;");
        due("one", x.safe(), 1);
        work(x, "crash 0;");
        due("so now, by crashes", x.safe(), 0);
        due("three of five", doneOfSeven().safe(), 3);
        due("void as well", skewedForAll().safe(), 2);
        SumDispersal hidden = lesserVectorHides();
        due("both: too few", hidden.fetch(3, 0), 0);
        due("1 alone: not", hidden.fetch(2, 0), 1);
        due("so 1 has to crash", hidden.safe(), 1);
        due("both files", twoFiles().safe(), 2);
        SumDispersal all = made("group 7 0;stripes 1;symbol 5;", "deal0;deal1;deal2;deal3;deal4;deal5;deal6;",
            "hear0 1;hear0 2;hear0 3;hear0 4;hear0 5;hear0 6;hear1 0;hear2 0;hear3 0;hear4 0;hear5 0;hear6 0;");
        due("all seven are done", all.told(8), 127);
        due("all seven", all.safe(), 7);
    }

    private static void unlike() {
        sentence("UNLIKE: of all sets of MEMBERS by which FETCH is not TOO FEW how many unlike ends there are (VOID is one; FOUND by its symbols).");
        due("none", new SumDispersal().unlike(), 0);
        due("one file", forged().unlike(), 1);
        due("void alone", skewedForAll().unlike(), 1);
        due("two files", twoFiles().unlike(), 2);
        SumDispersal both = made("group 3 0;stripes 1;symbol 10;traitor 2;", "skew0 1 2;deal0;deal1;say2 1 1;hear0 2;say2 0 1;hear1 2;");
        due("void and a file", both.unlike(), 2);
        // 0 is void by vector 1, 1 void by vector 2.
        SumDispersal voids = made("group 3 0;stripes 1;symbol 10;traitor 2;", "skew0 1 2;skew1 0 3;deal0;deal1;say2 1 1;hear0 2;say2 2 1;hear1 2;");
        due("by 1", voids.fetch(1, 1), 1);
        due("by 2", voids.fetch(2, 1), 2);
        due("both void", voids.fetch(2, 0) + voids.fetch(1, 0), 2);
        due("void is one", voids.unlike(), 1);
        // Three are done, by vectors 0, 3 and 1: 10, 12, and void.
        SumDispersal three = made("group 4 0;stripes 1;symbol 10;traitor 3;",
            "skew0 0 2;skew0 1 2;skew0 2 2;skew0 3 2;taint0 0 2;deal0;deal1;deal2;");
        work(three, "say3 4 1;hear0 3;say3 0 1;hear1 3;say3 1 1;hear2 3;");
        due("two files and void", three.unlike(), 3);
        SumDispersal down = twoFiles();
        work(down, "crash 0;");
        due("of those that are up", down.unlike(), 1);
        work(down, "crash 1;");
        due("none is left", down.unlike(), 0);
    }

    private static void fits() {
        sentence("FITS by BOOK: sets of MEMBERS (bits) that are UP and were not dealt to (none, too) by which, were deal done for each of "
            + "these now, by numbers, and then ALL HEAR ALL, all lines would be right: how many, the first (the least).");
        for (int n = 1; n <= 7; n++) {
            SumDispersal x = made("group " + n + " 0;");
            due("all sets of " + n, x.fits(0), 1 << n);
            due("none is the least", x.fits(1), 0);
        }
        SumDispersal x = made("", "deal 0;crash 1;");
        due("2 and 3 alone", x.fits(0), 4);
        book(x, "2 1;");
        due("2 without 3 (with both all would be done)", x.fits(0), 1);
        due("the first", x.fits(1), 4);
        book(x, "2 3;");
        due("2 and 3", x.fits(1), 12);
        book(x, "0 1;1 0;2 0;3 0;");
        due("none, too", x.fits(0), 1);
        due("none is the first", x.fits(1), 0);
        book(x, "0 0;");
        due("no set", x.fits(0), 0);
        due("no first", x.fits(1), -1);
        work(x, "deal 2;deal 3;");
        x.book(0);
        due("all are dealt to or down: none alone", x.fits(0), 1);
        due("without lines it fits", x.fits(1), 0);
        SumDispersal one = new SumDispersal();
        book(one, "0 3;1 3;2 3;3 3;");
        due("three or four of four", one.fits(0), 5);
        due("0, 1, 2", one.fits(1), 7);
        book(one, "0 3;1 2;");
        due("one line right, one wrong", one.fits(0), 0);
    }

    private static void looks() {
        sentence("LOOK: the MEMBER in no line by whose STAGE then, whatever it is, fewest of FITS are left at the worst "
            + "(0, if none is right), of these the first.");
        SumDispersal x = new SumDispersal();
        // Of 16 sets 5 make all done; of 11 others 0 has said echo in 4: 7, 4, 5.
        due("the first of alike ones", x.look(0), 0);
        due("left at the worst", x.look(1), 7);
        book(x, "0 3;");
        due("all five are alike by each", x.look(1), 5);
        due("the first in no line", x.look(0), 1);
        book(x, "0 2;");
        due("none is right", x.look(1), 0);
        due("the first in no line", x.look(0), 1);
        book(x, "0 0;1 0;2 0;");
        due("the one that is left", x.look(0), 3);
        due("dealt to or not", x.look(1), 1);
        SumDispersal later = made("", "crash 0;crash 1;crash 2;");
        due("0 to 2 tell nothing, 3 does", later.look(0), 3);
        due("one of two", later.look(1), 1);
        book(later, "3 0;");
        due("one set", later.look(1), 1);
        due("the first again", later.look(0), 0);
    }

    private static void shelves() {
        sentence("SHELF: a row of 7 places, nothing there at first, that takes FRAGMENTS alone.");
        SumDispersal x = made(FOUR, "deal 0;");
        for (int place = 0; place < 7; place++) {
            due("nothing at " + place, x.shelf(place), -1);
        }
        for (int place = 0; place < 7; place++) {
            due("shelve at " + place, x.shelve(0, 0, place), 1);
            due("there", x.shelf(place), 206);
            due("not at the next", place < 6 ? x.shelf(place + 1) : -1, -1);
        }
        refused(Sheet::full, INDEX, "shelf(7)", o -> o.shelf(7));
        refused(Sheet::full, INDEX, "shelf(-1)", o -> o.shelf(-1));
        refused(Sheet::full, STORE, "rubble on a fragment", o -> o.shelve(0, 1, 2));
        refused(Sheet::full, STORE, "rubble on nothing", o -> o.shelve(0, 1, 0));
        refused(Sheet::full, STORE, "rubble of one without a fragment", o -> o.shelve(1, 1, 6));
    }

    private static final int[] SEEDS = {0, 1, 2, 3, 7, 99, 1234, 65_535, 65_536, -1, -2, -65_536, Integer.MAX_VALUE, Integer.MIN_VALUE,
        Integer.MAX_VALUE - 1, Integer.MIN_VALUE + 1, 1_103_515_245, -12_345};

    private static void storms() {
        sentence("A STORM by a SEED: so many times: DRAWN by 8: 0, 1: deal of DRAWN by N; 2 to 5: hear of DRAWN by N, DRAWN by N; "
            + "6: is DRAWN by 16 below Q: crash of DRAWN by N (which is DRAWN just then); 7: taint of DRAWN by N, DRAWN by S, "
            + "1 more than DRAWN by 96 (each, if it can be done).");
        for (String text : new String[] {"group 1 0;stripes 1;", "group 2 0;stripes 3;symbol 5;", FOUR, "group 4 1;traitor 0;",
                "group 5 0;stripes 3;symbol 1;symbol 2;", "group 7 2;stripes 3;traitor 6;symbol 9;symbol 8;"}) {
            for (int seed : SEEDS) {
                for (int many : new int[] {1, 2, 8, 40, 96}) {
                    for (int q : new int[] {0, 1, 8, 15, 16}) {
                        stormAsWork(text, seed, many, q);
                    }
                }
            }
        }
        taintsOfStorms();
        SumDispersal begun = made(FOUR, DEAL_FOUR);
        due("it goes on from what is there", begun.storm(1, 2, 14, 2), 15);
        due("and from a new one", new SumDispersal().storm(1, 2, 14, 2), 0);
    }

    /** What the storm taints first was tainted by just as much less, so that the deal behind it is right. */
    private static void taintsOfStorms() {
        int[] seen = new int[97];
        for (int seed = 0; seed < 60_000; seed++) {
            String[] taint = new Drawing(seed).step(2, 3, 0).split("[ ;]");
            Drawing behind = new Drawing(seed);
            behind.step(2, 3, 0);
            if (!taint[0].equals("taint0") || !behind.step(2, 3, 0).equals("deal0;") || seen[Integer.parseInt(taint[2])] == 1) {
                continue;
            }
            int more = Integer.parseInt(taint[2]);
            seen[more] = 1;
            String ahead = "say 1 0 0;hear 0 1;taint 0 " + taint[1] + " ";
            SumDispersal x = made("group 2 0;stripes 3;traitor 1;", ahead + (97 - more) + ";");
            due("seed " + seed + " taints by " + more, x.storm(seed, 2, 0, 0), 1);
        }
        for (int more = 1; more <= 96; more++) {
            due("a taint by " + more, seen[more], 1);
        }
    }

    /** The same steps told as WORK, drawn here by 64 bits. */
    private static void stormAsWork(String text, int seed, int many, int q) {
        SumDispersal x = made(text);
        SumDispersal twin = made(text);
        Drawing drawing = new Drawing(seed);
        StringBuilder steps = new StringBuilder();
        for (int i = 0; i < many; i++) {
            String step = drawing.step(x.told(0), x.told(2), q);
            if (steps.length() + step.length() > 150) {
                work(twin, steps.toString());
                steps.setLength(0);
            }
            steps.append(step);
        }
        work(twin, steps.toString());
        String name = "storm(" + seed + ", " + many + ", " + q + ", ";
        due(name + "0) behind " + text, x.storm(seed, many, q, 0), twin.told(8));
        due(name + "1) behind " + text, x.storm(seed, many, q, 1), twin.told(4));
        due(name + "2) behind " + text, x.storm(seed, many, q, 2), twin.ends(0));
        due(name + "3) behind " + text, x.storm(seed, many, q, 3), twin.fetch((1 << x.told(0)) - 1, 0));
    }

    private static final class Drawing {
        private long seed;

        Drawing(int seed) {
            this.seed = seed & 0xffff_ffffL;
        }

        int drawn(int by) {
            seed = (seed * 1_103_515_245L + 12_345L) % (1L << 32);
            return (int) (seed / (1L << 16) % (1L << 15) % by);
        }

        String step(int n, int s, int q) {
            int kind = drawn(8);
            if (kind < 2) {
                return "deal" + drawn(n) + ";";
            }
            if (kind < 6) {
                int b = drawn(n);
                return "hear" + b + " " + drawn(n) + ";";
            }
            if (kind == 6) {
                return drawn(16) < q ? "crash" + drawn(n) + ";" : "";
            }
            int m = drawn(n);
            int j = drawn(s);
            return "taint" + m + " " + j + " " + (1 + drawn(96)) + ";";
        }
    }

    private static void draws() {
        sentence("What is DRAWN: the SEED (32 bits) becomes itself times 1,103,515,245, and 12,345 (it wraps); its bits 16 to 30, what is left of them.");
        // Seed 1: 1,103,527,590, of which bits 16 to 30 are 16838 (by 8: 6); then 2,524,885,223, which
        // wraps and whose bit 31 is left out: 5758 (by 16: 14); then 10113 (by 4: 1).
        due("14 is below 15: 1 crashes", new SumDispersal().storm(1, 1, 15, 1), 13);
        due("14 is not below 14", new SumDispersal().storm(1, 1, 14, 1), 15);
        due("not drawn then: the next is 10113 by 8, a deal", made("group 1 0;").storm(1, 2, 14, 0), 1);
        due("drawn then: 17515 by 8 is 3", made("group 1 0;").storm(1, 2, 15, 0), 0);
        // Seed 0: 12,345 has no bits from 16 on: 0, a deal; then 3,554,416,254, without bit 31: 21468 (by 7: 6).
        SumDispersal six = made("group 7 0;", "deal 0;deal 1;deal 2;deal 3;deal 4;deal 5;");
        due("the seventh echo is missing", six.ends(0), 0);
        due("seed 0 deals to 6", six.storm(0, 1, 0, 2), 127);
        due("the least seed has the same bits 16 to 30", six.storm(Integer.MIN_VALUE, 1, 0, 2), 127);
        due("the greatest has others: 15929 by 8 is 1, a deal; 4409 by 7 is 6", six.storm(Integer.MAX_VALUE, 1, 0, 2), 127);
        due("32 bits: behind the greatest seed comes the least", made("group 1 0;").span(Integer.MAX_VALUE, 2, 9, 4, 2, 0),
            made("group 1 0;").storm(Integer.MAX_VALUE, 9, 4, 0) + made("group 1 0;").storm(Integer.MIN_VALUE, 9, 4, 0));
    }
}
