/** The promises 32 to 45: what a member lacks, dooms, storms, images, refusals. */
final class LastSentences extends Sheet {
    static void run() {
        lacks();
        rounds();
        doom();
        tainted();
        news();
        loose();
        first();
        given();
        storm();
        span();
        images();
        restores();
        status();
        count();
    }

    private static void lacks() {
        sentence("How many more MEMBERS a MEMBER would have to HEAR ECHO of, of that VECTOR of which it HEARD ECHO of most, "
            + "until they are N less T (0: they are, or it said READY).");
        for (int n = 1; n <= 7; n++) {
            for (int t = 0; 3 * t + 1 <= n; t++) {
                due("nothing heard, " + n + " " + t, made("group " + n + " " + t + ";").lacks(n - 1), n - t);
            }
        }
        due("two of 0, none of others", made("", "deal 0;deal 1;hear 0 1;").lacks(0), 1);
        due("two of 0, one of 1", made("traitor 3;", "skew 3 0 1;deal 0;deal 1;say 3 1 0;hear 0 1;hear 0 3;").lacks(0), 1);
        SumDispersal x = made("group 7 2;traitor 1;traitor 2;traitor 3;traitor 4;traitor 5;traitor 6;",
            "skew 6 0 1;deal 0;say1 1 0;say2 1 0;say3 1 0;hear0 1;");
        due("its own of 0, one of 1", x.lacks(0), 4);
        work(x, "hear0 2;");
        due("two of 1 are most", x.lacks(0), 3);
        work(x, "hear0 3;");
        due("three", x.lacks(0), 2);
        work(x, "say4 1 0;hear0 4;");
        due("four", x.lacks(0), 1);
        work(x, "say5 1 0;hear0 5;");
        due("five: they are, and it said ready", x.lacks(0), 0);
        due("a traitor's own", x.lacks(1), 4);
        work(x, "hear1 2;hear1 3;hear1 4;hear1 5;");
        due("a traitor: they are", x.lacks(1), 0);
        work(x, "hear1 0;say6 1 0;hear1 6;");
        due("more than enough", x.lacks(1), 0);
        SumDispersal ready = made("traitor 3;traitor 2;", "say3 0 1;say2 0 1;hear0 3;hear0 2;");
        due("it said ready, by readies", ready.lacks(0), 0);
        due("a traitor that said ready", ready.lacks(3), 0);
        due("one that has not", ready.lacks(1), 3);
        work(ready, "hear1 3;");
        due("readies are no echoes", ready.lacks(1), 3);
    }

    private static void rounds() {
        sentence("Behind how many turns of ALL HEAR ALL (0: now) a MEMBER is DONE; NONE: behind none.");
        SumDispersal x = made(FOUR, DEAL_FOUR);
        int[] want = {2, 2, 1, 1};
        for (int m = 0; m < 4; m++) {
            due("rounds(" + m + ")", x.rounds(m), want[m]);
            due("never: rounds(" + m + ")", new SumDispersal().rounds(m), -1);
            due("now: rounds(" + m + ")", skewedForAll().rounds(m), 0);
        }
        due("a traitor is never done", forged().rounds(3), -1);
        SumDispersal down = made(FOUR, DEAL_FOUR + "crash 3;");
        due("one that is not up hears nothing", down.rounds(3), -1);
        due("the others are", down.rounds(2), 1);
        due("done, not up", made("group 1 0;", "deal 0;crash 0;").rounds(0), 0);
    }

    private static void doom() {
        sentence("The MEMBER that is UP by whose crash now fewest are DONE (UP or not) behind ALL HEAR ALL (what 0), of alike ones the first, "
            + "how many (1); NONE both: nobody is UP.");
        doom(new SumDispersal(), 0, 0);
        doom(made(FOUR, DEAL_FOUR), 0, 3);
        doom(made(FOUR + "traitor 0;", DEAL_FOUR), 1, 0);
        doom(made(FOUR, "deal 1;deal 2;deal 3;crash 3;"), 0, 0);
        // Three that are no traitors are left to say ready, all of which it takes.
        doom(made(FOUR + "traitor 3;", "deal 0;deal 1;deal 2;"), 0, 0);
        doom(skewedForAll(), 0, 4);
        SumDispersal x = skewedForAll();
        work(x, "crash 0;");
        doom(x, 1, 4);
        work(x, "crash 1;crash 2;");
        doom(x, 3, 4);
        work(x, "crash 3;");
        doom(x, -1, -1);
        doom(made("group 1 0;"), 0, 0);
        doom(made("group 1 0;", "crash 0;"), -1, -1);
        // By whichever crash five are left that hear the five echoes, and are done: the first.
        doom(made("group 7 2;", "deal 2;deal 3;deal 4;deal 5;deal 6;crash 0;"), 1, 5);
    }

    private static void doom(SumDispersal x, int member, int done) {
        due("doom(0)", x.doom(0), member);
        due("doom(1)", x.doom(1), done);
    }

    private static void tainted() {
        sentence("In how many symbols the FRAGMENT that a MEMBER has is unlike the DEALER's for it now; NONE: it has none.");
        SumDispersal x = made("group 4 1;stripes 3;traitor 3;", "deal 0;deal 3;taint 1 0 1;deal 1;");
        due("none is unlike", x.tainted(0), 0);
        due("dealt a wrong one", x.tainted(1), -1);
        due("not dealt to", x.tainted(2), -1);
        work(x, "taint 0 2 96;");
        due("one", x.tainted(0), 1);
        work(x, "taint 0 0 1;");
        due("two", x.tainted(0), 2);
        work(x, "taint 0 1 50;");
        due("all three", x.tainted(0), 3);
        work(x, "taint 0 2 1;");
        due("alike again in one", x.tainted(0), 2);
        work(x, "forge 3 0 5;");
        due("forged", x.tainted(3), 1);
        work(x, "taint 3 0 5;crash 3;");
        due("both alike, not up", x.tainted(3), 0);
    }

    private static int news(SumDispersal x, int member, int other) {
        return x.news(member, other) ? 1 : 0;
    }

    private static void news() {
        sentence("Whether hear of a MEMBER, another one (or itself), could be done now.");
        for (String works : new String[] {"", "deal 0;", "deal 0;hear 1 0;crash 2;", DEAL_FOUR + "hear0 1;hear0 2;crash 0;",
                "say 3 0 0;say 3 0 1;hear 0 3;say 3 0 0;", "deal 0;deal 1;deal 2;hear0 1;hear1 0;hear0 2;"}) {
            for (int m = 0; m < 4; m++) {
                for (int other = 0; other < 4; other++) {
                    SumDispersal x = made("traitor 3;", works);
                    due("news(" + m + ", " + other + ") behind " + works, news(x, m, other), work(x, "hear " + m + " " + other + ";"));
                }
            }
        }
        SumDispersal x = made("traitor 3;", "deal 0;");
        due("itself", news(x, 0, 0), 0);
        due("an echo", news(x, 1, 0), 1);
        due("a traitor hears", news(x, 3, 0), 1);
        due("nothing said", news(x, 0, 1), 0);
        work(x, "hear 1 0;crash 2;crash 0;");
        due("heard", news(x, 1, 0), 0);
        due("not up", news(x, 2, 0), 0);
        due("of one not up", news(x, 3, 0), 1);
    }

    private static void loose() {
        sentence("How few of told MEMBERS have to be left out so that the others are smooth().");
        SumDispersal x = made("group 7 2;stripes 2;symbol 1;symbol 2;symbol 3;symbol 4;symbol 5;symbol 6;traitor 4;traitor 5;traitor 6;",
            "deal0;deal1;deal2;deal3;deal4;deal5;deal6;forge4 0 1;forge5 0 7;forge6 1 1;");
        due("none told", x.loose(0), 0);
        due("K", x.loose(112), 0);
        due("smooth ones", x.loose(15), 0);
        due("one of five", x.loose(15 + 16), 1);
        due("one of four", x.loose(7 + 16), 1);
        due("two of six", x.loose(15 + 48), 2);
        due("three of seven", x.loose(127), 3);
        due("K are left at least", x.loose(1 + 2 + 112), 2);
        due("without fragments none", new SumDispersal().loose(15), 0);
        due("all, and all are smooth", made(FOUR, DEAL_FOUR).loose(15), 0);
        SumDispersal flat = made("group 7 0;stripes 1;traitor 0;traitor 1;traitor 2;traitor 3;traitor 4;traitor 5;",
            "deal0;deal1;deal2;deal3;deal4;deal5;deal6;forge1 0 1;forge2 0 2;forge3 0 3;forge4 0 4;forge5 0 5;forge0 0 6;");
        due("all but one", flat.loose(127), 6);
        due("one alone", flat.loose(1), 0);
        SumDispersal some = made(FOUR + "traitor 3;", "deal1;deal2;deal3;forge 3 0 1;");
        due("one without a fragment is no loss", some.loose(15), 1);
    }

    private static void first() {
        sentence("Did ALL HEAR ALL: the MEMBER that is DONE first, by turns, of alike ones the first (what 0), "
            + "behind how many turns (1; 0: now); NONE both: none is.");
        first(new SumDispersal(), -1, -1);
        first(made(FOUR, DEAL_FOUR), 2, 1);
        first(made(FOUR, DEAL_FOUR, HEAR_FOUR), 2, 0);
        first(forged(), 0, 0);
        first(made("group 1 0;", "deal 0;"), 0, 0);
        first(made("group 1 0;", "deal 0;crash 0;"), 0, 0);
        first(made("group 1 0;"), -1, -1);
        first(made("group 7 2;", "deal 0;deal 1;deal 2;deal 3;deal 4;"), 4, 1);
        // 0 and 1 alone are up: ready in turn 1, never done.
        first(made(FOUR, "deal 0;deal 1;deal 2;crash 2;crash 3;"), -1, -1);
        // 0 is down, 1 and 2 hear three echoes: 1, 2 and 3 are ready; 3 is done in the first turn.
        first(made(FOUR, DEAL_FOUR + "crash 0;"), 3, 1);
    }

    private static void first(SumDispersal x, int member, int turns) {
        due("first(0)", x.first(0), member);
        due("first(1)", x.first(1), turns);
    }

    private static void given() {
        sentence("Were deal done now for each of told MEMBERS, by numbers, as far as it can be, and did then ALL HEAR ALL: "
            + "0 MEMBERS that are DONE (bits), 1 how many of these deals could be done.");
        SumDispersal x = new SumDispersal();
        given(x, 0, 0, 0);
        given(x, 1, 0, 1);
        given(x, 3, 0, 2);
        given(x, 7, 15, 3);
        given(x, 14, 15, 3);
        given(x, 15, 15, 4);
        work(x, "deal 0;crash 3;");
        given(x, 1, 0, 0);
        given(x, 9, 0, 0);
        given(x, 2, 0, 1);
        given(x, 6, 7, 2);
        given(x, 15, 7, 2);
        SumDispersal wrong = made("", "taint 0 0 1;");
        given(wrong, 7, 0, 3);
        given(wrong, 15, 15, 4);
        SumDispersal one = made("group 1 0;");
        given(one, 0, 0, 0);
        given(one, 1, 1, 1);
        given(made("group 7 2;"), 127, 127, 7);
        given(made("group 7 2;"), 15, 0, 4);
    }

    private static void given(SumDispersal x, int members, int done, int deals) {
        due("given(" + members + ", 0)", x.given(members, 0), done);
        due("given(" + members + ", 1)", x.given(members, 1), deals);
    }

    private static void storm() {
        sentence("A STORM of so many times (1 to 96), Q (0 to 16): 0 MEMBERS that are DONE then (bits), 1 those that are UP (bits), "
            + "2 what ends(0) would be then, 3 what fetch of all MEMBERS, 0, would be then.");
        refusedAll(Sheet::full, ARGUMENT, "so many times", (o, many) -> o.storm(1, many, 0, 0), 0, -1, 97);
        refusedAll(Sheet::full, ARGUMENT, "Q", (o, q) -> o.storm(1, 1, q, 0), -1, 17);
        for (int seed : new int[] {Integer.MIN_VALUE, -1, 0, 1, Integer.MAX_VALUE}) {
            for (int many : new int[] {1, 96}) {
                for (int q : new int[] {0, 16}) {
                    unchanged(Sheet::full, "storm of " + seed + ", " + many + ", " + q, o -> o.storm(seed, many, q, 2));
                }
            }
        }
        SumDispersal x = made("group 1 0;symbol 5;");
        due("done", x.storm(1, 2, 14, 0), 1);
        due("up", x.storm(1, 2, 14, 1), 1);
        due("ends(0)", x.storm(1, 2, 14, 2), 1);
        due("fetch", x.storm(1, 2, 14, 3), 2);
        due("not done", x.storm(1, 1, 14, 0), 0);
        due("too few", x.storm(1, 1, 14, 3), 0);
        due("not up", x.storm(1, 1, 16, 1), 0);
        due("Q 0: nobody falls", x.storm(1, 96, 0, 1), 1);
        due("Q 16: drawn by 16 is always below", made("group 7 0;").storm(1, 96, 16, 1) < 127 ? 1 : 0, 1);
        SumDispersal voided = made("group 2 0;stripes 1;symbol 10;traitor 1;", "skew0 1 2;deal0;say1 1 1;hear0 1;");
        due("void", voided.storm(1, 1, 0, 3), 1);
        due("the traitor falls", voided.storm(1, 1, 16, 1), 1);
        due("void all the same", voided.storm(1, 1, 16, 3), 1);
    }

    private static void span() {
        sentence("Of so many SEEDS (1 to 5; seed, seed and 1, ..): 0 the fewest MEMBERS DONE then, 1 the most, 2 by how many a MEMBER is DONE then.");
        refusedAll(Sheet::full, ARGUMENT, "so many seeds", (o, seeds) -> o.span(1, seeds, 1, 0, 0, 0), 0, -1, 6);
        refusedAll(Sheet::full, ARGUMENT, "so many times", (o, many) -> o.span(1, 1, many, 0, 0, 0), 0, -1, 97);
        refusedAll(Sheet::full, ARGUMENT, "Q", (o, q) -> o.span(1, 1, 1, q, 0, 0), -1, 17);
        for (int seed : new int[] {-3, -1, 0, 40, Integer.MIN_VALUE, Integer.MAX_VALUE - 5, Integer.MAX_VALUE - 2, Integer.MAX_VALUE}) {
            for (int seeds = 1; seeds <= 5; seeds++) {
                spanOf("group 1 0;", seed, seeds, 2);
                spanOf("group 2 0;stripes 1;", seed, seeds, 30);
                spanOf("group 4 1;stripes 1;", seed, seeds, 96);
                spanOf("group 7 0;stripes 1;traitor 6;", seed, seeds, 96);
            }
        }
        sentence("(NoSuchElementException: also for 0, 1.)");
        for (int what = 0; what <= 2; what++) {
            int asked = what;
            refusedAll(Sheet::full, NO_SUCH, "member for " + what, (o, m) -> o.span(1, 1, 1, 0, asked, m), -1, 4);
        }
        refused(Sheet::full, NO_SUCH, "ahead of a wrong what", o -> o.span(1, 1, 1, 0, 3, 4));
        refused(Sheet::full, NO_SUCH, "ahead of wrong seeds", o -> o.span(1, 6, 1, 0, 0, 4));
    }

    private static void spanOf(String text, int seed, int seeds, int many) {
        SumDispersal x = made(text);
        int last = x.told(0) - 1;
        int fewest = 7;
        int most = 0;
        int firstDone = 0;
        int lastDone = 0;
        for (int i = 0; i < seeds; i++) {
            int done = x.storm(seed + i, many, 3, 0);
            fewest = Math.min(fewest, Integer.bitCount(done));
            most = Math.max(most, Integer.bitCount(done));
            firstDone += done & 1;
            lastDone += done >> last & 1;
        }
        String name = "span of " + seed + ", " + seeds + " behind " + text;
        due(name + " fewest", x.span(seed, seeds, many, 3, 0, 0), fewest);
        due(name + " most", x.span(seed, seeds, many, 3, 1, last), most);
        due(name + " first", x.span(seed, seeds, many, 3, 2, 0), firstDone);
        due(name + " last", x.span(seed, seeds, many, 3, 2, last), lastDone);
    }

    private static void images() {
        sentence("An IMAGE of all that WORK changes, and of WORKS that can be undone: how many there are; -1: there are 3.");
        SumDispersal x = made(FOUR + "traitor 3;");
        due("one", x.image(), 1);
        work(x, "deal 0;deal 0;");
        due("two", x.image(), 2);
        work(x, "deal 3;forge 3 0 1;say 3 0 0;skew 1 0 1;taint 1 0 1;hear 0 3;crash 1;");
        due("three", x.image(), 3);
        due("no fourth", x.image(), -1);
        due("three are there", x.count(0), 3);
        due("nothing else is changed", x.count(2), 2);
        work(x, "crash 0;crash 2;crash 3;");
        due("restore the third", x.restore(), 2);
        due("a third again", x.image(), 3);
        unchanged(LastSentences::imagedThrice, "a fourth image", o -> o.image());
        SumDispersal works = made("", "deal 0;", "deal 1;");
        works.image();
        works.undo();
        works.undo();
        work(works, "crash 0;");
        works.restore();
        due("works that can be undone", works.count(2), 2);
        due("one is undone", works.undo(), 1);
        due("as it was", works.told(6), 1);
        due("the other is", works.undo(), 0);
        due("as at first", works.told(6), 0);
    }

    private static SumDispersal imagedThrice() {
        SumDispersal x = rich();
        x.image();
        work(x, "crash 0;");
        x.image();
        return x;
    }

    private static void restores() {
        sentence("All that is as in the latest IMAGE, which is gone: how many are left; -1: there is none.");
        due("none", new SumDispersal().restore(), -1);
        unchanged(Sheet::fresh, "restore of none", o -> o.restore());
        unchanged(() -> made(FOUR, "deal 0;deal 0;"), "restore of none behind works", o -> o.restore());
        String dealt = "deal 3;forge 3 0 1;say 3 0 0;skew 1 0 1;taint 1 0 1;hear 0 3;crash 1;";
        String other = "skew 2 2 5;deal 0;deal 2;say 3 1 0;say 3 0 1;hear 2 3;taint 0 1 9;forge 3 1 7;crash 0;";
        SumDispersal x = made(FOUR + "traitor 3;", dealt);
        x.image();
        work(x, other);
        due("the latest", x.restore(), 0);
        dueText("all is as it was", state(x), state(made(FOUR + "traitor 3;", dealt)));
        due("told(10)", x.told(10), 0);
        due("it is gone", x.restore(), -1);
        SumDispersal y = imagedThrice();
        due("up", y.told(4), 10);
        work(y, "crash 3;");
        due("the third", y.restore(), 2);
        due("up", y.told(4), 10);
        due("the second", y.restore(), 1);
        due("up", y.told(4), 11);
        due("works", y.count(2), 3);
        due("the first", y.restore(), 0);
        due("works", y.count(2), 2);
        due("none is left", y.restore(), -1);
        due("the book stays", y.told(9), 2);
        due("the shelf stays", y.shelf(2), 206);
    }

    private static void status() {
        sentence("How many calls were refused: 0 NoSuchElementException, 1 IllegalArgumentException, 2 NullPointerException, "
            + "3 IndexOutOfBoundsException, 4 ArithmeticException, 5 ArrayStoreException; NONE for others.");
        SumDispersal x = made("stripes 3;", "deal 0;");
        Call[] calls = {o -> o.skewed(9), o -> o.told(11), o -> o.symbol(1, 0), o -> o.dealer(0, 3), o -> o.sumBy(0, 99_999), o -> o.shelve(0, 1, 0)};
        for (int reason = 0; reason < 6; reason++) {
            for (int times = 0; times <= reason; times++) {
                refused(x, REASONS.get(reason), "by reason " + reason, calls[reason]);
            }
        }
        for (int reason = 0; reason < 6; reason++) {
            due("status(" + reason + ")", x.status(reason), reason + 1);
        }
        for (int other : new int[] {-1, 6, 7, Integer.MIN_VALUE, Integer.MAX_VALUE}) {
            due("status(" + other + ")", x.status(other), -1);
        }
        work(x, "deal 9;");
        work(x, "deal 0;");
        x.undo();
        x.undo();
        x.undo();
        x.feed(0, 0, 0, 0, 0);
        due("faults, refused steps and -1 are no refusals", x.status(1), 2);
        x.dispersal(0);
        due("a new dispersal goes on", x.status(5), 6);
        sentence("(No IMAGE keeps it.)");
        SumDispersal y = new SumDispersal();
        y.image();
        refused(y, NO_SUCH, "skewed(4)", o -> o.skewed(4));
        y.restore();
        due("behind restore()", y.status(0), 1);
    }

    private static void count() {
        sentence("0 IMAGES, 1 bytes of the TAPE, 2 WORKS that can be undone; NONE for others.");
        SumDispersal x = made("");
        for (int i = 1; i <= 3; i++) {
            x.image();
            due("images", x.count(0), i);
        }
        for (int i = 1; i <= 16; i++) {
            work(x, "");
            due("works", x.count(2), i);
        }
        for (int i = 1; i <= 30; i++) {
            x.feed(0, 0, 0, 0, 0);
            due("bytes", x.count(1), 20 * i);
        }
        due("images still", x.count(0), 3);
        due("works still", x.count(2), 16);
        for (int other : new int[] {-1, 3, 4, Integer.MIN_VALUE, Integer.MAX_VALUE}) {
            due("count(" + other + ")", x.count(other), -1);
        }
        x.restore();
        due("images", x.count(0), 2);
        due("works", x.count(2), 0);
        due("bytes stay", x.count(1), 600);
        x.dispersal(0);
        due("no images", x.count(0), 0);
        due("no bytes", x.count(1), 0);
    }
}
