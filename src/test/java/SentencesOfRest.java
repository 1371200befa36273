/** The sentences that name no boundary case: with them each word of the Terms and of the promises stands in one that has a test. */
final class SentencesOfRest {
    private static final int NONE = MendedThings.NONE;
    private static final long NOTHING = MendedThings.NOTHING;
    private static final String M = Kit.mender("m", 7, 4);

    private SentencesOfRest() {
    }

    /** Whether the test holds, by a trial of an island and by a question. */
    private static void holds(String test, boolean want) {
        MendedThings x = Kit.of(Kit.thing("a", 7, 5, 3) + "trial r is " + test + ";");
        Kit.due("trial r is " + test, x.trial(0, 0), want ? 1 : 0);
        Kit.due("often " + test, Kit.ask(x, "often " + test), want ? 1 : 0);
    }

    /** What the sum is, by the fineness of a mend (0 .. 99) and by a question. */
    private static void sum(String sum, int want) {
        MendedThings x = Kit.of(Kit.thing("a", 7, 5, 3) + M + "fine " + sum + ";");
        Kit.due("fine " + sum, x.fine(0, 0), want);
        Kit.due("total " + sum, Kit.ask(x, "total " + sum), want);
    }

    // ---- Terms I

    @Says(at = "Terms I", text = "TEST: BOTH { or BOTH }. BOTH: FACT { and FACT }.")
    static void orAnd() {
        String[] facts = {"all", "not all"};
        for (int bits = 0; bits < 8; bits++) {
            boolean a = (bits & 1) == 0;
            boolean b = (bits & 2) == 0;
            boolean c = (bits & 4) == 0;
            String[] of = {facts[a ? 0 : 1], facts[b ? 0 : 1], facts[c ? 0 : 1]};
            holds(of[0] + " or " + of[1] + " or " + of[2], a || b || c);
            holds(of[0] + " and " + of[1] + " and " + of[2], a && b && c);
            holds(of[0] + " or " + of[1] + " and " + of[2], a || b && c);
            holds(of[0] + " and " + of[1] + " or " + of[2], a && b || c);
        }
        Kit.faultAt("falls ^or all;", 1);
        Kit.faultAt("falls all or ^and all;", 1);
        Kit.faultAt("falls all ^all;", 1);
    }

    @Says(at = "Terms I", text = "FACT: not FACT; [ TEST ] ; all;")
    static void facts() {
        holds("all", true);
        holds("not all", false);
        holds("not not all", true);
        // not is of its FACT alone, and that is the whole of SUM SIGN SUM
        holds("not all or all", true);
        holds("not [all or all]", false);
        holds("not not all and not all", false);
        holds("not [not all and not all]", true);
        holds("not worth < use", true);
        holds("not worth > use", false);
        holds("[all or all] and not all", false);
        holds("[[not all]] or [worth = 7]", true);
        Kit.faultAt("falls [^];", 1);
        Kit.faultAt("falls [all^);", 1);
        Kit.faultAt("falls all^];", 1);
        Kit.faultAt("falls not^;", 1);
        Kit.faultAt("falls (^all);", 1);
    }

    @Says(at = "Terms I", text = "SUM: PRODUCT { + or - PRODUCT }. PRODUCT: PART { * or / PART }.")
    static void sumsOfProducts() {
        sum("2+3*4", 14);
        sum("2*3+4", 10);
        sum("20-3*4", 8);
        sum("20/5-3", 1);
        sum("20-12/4-1", 16);
        sum("2+3+4-5+6", 10);
        sum("2*3*4/6*5", 20);
        sum("1+2*3-8/4+5*6", 35);
        Kit.faultAt("takes ^-1;", 1);
        Kit.faultAt("takes 1+^-1;", 1);
        Kit.faultAt("takes 1*^/1;", 1);
        Kit.faultAt("takes 1 ^1;", 1);
    }

    @Says(at = "Terms I", text = "worth; use; frail; breaks; mends; day; ( SUM )")
    static void plainParts() {
        sum("(worth)", 7);
        sum("(worth+use)*frail", 36);
        sum("worth+use*frail", 22);
        sum("20-(worth-(use-frail))", 15);
        sum("breaks+mends+day", 0);
        for (String rule : new String[] {"takes", "fine", "first"}) {
            Kit.whole(rule + " worth+use+frail+breaks+mends+day+(1);", 1);
        }
        for (String rule : new String[] {"stands", "falls", "trial r is"}) {
            Kit.whole(rule + " worth+use+frail<breaks+mends+day+(1);", 1);
        }
        Kit.faultAt("takes (^);", 1);
        Kit.faultAt("takes (1^];", 1);
        Kit.faultAt("takes 1^);", 1);
    }

    @Says(at = "Terms I", text = "(Of a THING its worth, use, how frail it is, how often it broke, was mended; the DAY;")
    static void whatPartsAre() {
        String rules = "trial w is worth=31;trial u is use=32;trial f is frail=3;trial b is breaks=2;trial m is mends=1;takes day;";
        MendedThings x = Kit.of(Kit.thing("p", 1, 2, 4) + Kit.thing("q", 31, 32, 3) + Kit.mender("n", 7, 4) + rules);
        x.strike(1);
        x.mend(1, 0);
        x.strike(1);
        for (int r = 0; r < 5; r++) {
            Kit.due("trial " + r + " of its own", x.trial(r, 1), 1);
            Kit.due("trial " + r + " of the other", x.trial(r, 0), 0);
        }
        Kit.toDay(x, 45);
        Kit.due("the DAY", x.takes(0, 0), 45);
        Kit.due("the same for each THING", x.takes(1, 0), 45);
    }

    @Says(at = "Terms I", text = "of a MENDER his skill.)")
    static void whatSkillIs() {
        MendedThings x = Kit.of(Kit.things(2) + Kit.mender("m", 3, 4) + Kit.mender("n", 8, 4) + "takes skill*2;fine 50-skill;");
        for (int t = 0; t < 2; t++) {
            Kit.due("hours of the first", x.takes(t, 0), 6);
            Kit.due("hours of the second", x.takes(t, 1), 16);
            Kit.due("as fine by the first", x.fine(t, 0), 47);
            Kit.due("as fine by the second", x.fine(t, 1), 42);
        }
    }

    // ---- Terms II, III, IV

    @Says(at = "Terms II", text = "A THING is WHOLE (0), BROKEN (1), or MENDED (2).")
    static void whatAThingIs() {
        MendedThings x = Kit.of(Kit.things(3) + M);
        int[][] want = {{0, 0, 0}, {1, 0, 0}, {1, 0, 2}, {2, 0, 2}, {2, 1, 2}};
        for (int act = 0; act < want.length; act++) {
            boolean done = act == 0
                || act == 1 && x.strike(0)
                || act == 2 && x.forge(2)
                || act == 3 && x.mend(0, 0) == 7
                || act == 4 && x.strike(1);
            Kit.due("act " + act, done, true);
            for (int t = 0; t < 3; t++) {
                Kit.due("thing " + t + " behind act " + act, x.thing(t, 3), want[act][t]);
            }
        }
    }

    @Says(at = "Terms II", text = "all else stays; DAYS; DAYS by the seed")
    static void daysAreActs() {
        MendedThings x = Kit.of(Kit.things(3) + M + "cat 100;falls day=1;");
        x.days(3);
        Kit.due("three DAYS are one ACT", x.has(10), 1);
        x.chance(4);
        Kit.due("four by the seed are one more", x.has(10), 2);
        Kit.due("DAY", x.has(3), 7);
        x.undo();
        Kit.due("those by the seed are undone", x.has(3), 3);
        x.undo();
        Kit.due("all are undone", x.has(3), 0);
        Kit.due("none is left", x.has(10), 0);
    }

    @Says(at = "Terms III", text = "USE that STANDS by it;")
    static void useByALaw() {
        MendedThings x = Kit.of(Kit.thing("a", 1, 1, 1) + Kit.thing("b", 1, 2, 1) + Kit.thing("c", 1, 4, 1) + Kit.thing("d", 1, 8, 1) + M
            + "stands breaks=1;");
        x.forge(0);
        for (int k = 0; k < 3; k++) {
            x.strike(k == 0 ? 1 : 2);
            x.mend(k == 0 ? 1 : 2, 0);
        }
        x.strike(3);
        Kit.due("as told: b", x.lawed(0, 0), 2);
        Kit.due("MENDED: a, b, c", x.lawed(1, 0), 7);
        Kit.due("mended twice: c", x.lawed(2, 0), 4);
        Kit.due("all stays", x.has(8), 2);
    }

    @Says(at = "Terms IV", text = "( SUM ) ; min ( SUM , SUM ) ; max ( SUM , SUM ) . (Its number;")
    static void questionSums() {
        MendedThings x = Kit.of(Kit.things(5));
        Kit.due("their numbers", Kit.ask(x, "total number"), 10);
        Kit.due("the greatest", Kit.ask(x, "most number"), 4);
        Kit.due("the least", Kit.ask(x, "least number"), 0);
        Kit.due("in brackets", Kit.ask(x, "total (number+1)*2"), 30);
        Kit.due("min", Kit.ask(x, "total min(number,2)"), 7);
        Kit.due("max", Kit.ask(x, "total max ( number , 4-number )"), 16);
        Kit.due("one in the other", Kit.ask(x, "total min(max(number,1),3)"), 10);
    }

    // ---- the promises

    @Says(at = "Promise 5", text = "Of the latest island() or ask():")
    static void latestFault() {
        MendedThings x = new MendedThings();
        Kit.island(x, "cat 101;");
        Kit.ask(x, "total (((((((1");
        Kit.due("of the question, not of the island", x.fault(0), 4);
        Kit.due("its place", x.fault(1), 12);
        Kit.island(x, "thing thing");
        Kit.due("of the island, not of the question", x.fault(0), 1);
        Kit.due("its place", x.fault(1), 6);
        Kit.ask(x, "total 1");
        Kit.due("of the question, without", x.fault(0), 0);
        Kit.due("its place", x.fault(1), NONE);
    }

    @Says(at = "Promise 9", text = "Of a MENDER: 0 skill, 1 hours a DAY.")
    static void menders() {
        MendedThings x = Kit.of(Kit.mender("a", 9, 1) + Kit.mender("b", 0, 24) + Kit.mender("c", 5, 6));
        int[][] want = {{9, 1}, {0, 24}, {5, 6}};
        for (int m = 0; m < 3; m++) {
            Kit.due("skill of " + m, x.mender(m, 0), want[m][0]);
            Kit.due("hours of " + m, x.mender(m, 1), want[m][1]);
        }
    }

    @Says(at = "Promise 13", text = "0 DAY, 1 THING, 2 what it was.")
    static void keptByWhat() {
        MendedThings x = Kit.of(Kit.things(3) + Kit.mender("m", 1, 3) + Kit.mender("n", 2, 4) + "falls day=5 and worth=1;");
        x.strike(2);
        x.mend(2, 1);
        x.days(6);
        // on DAY 5 all fall, the second mender has hours for one of them; the first never has
        int[][] want = {{0, 2, 0}, {0, 2, 2}, {5, 0, 0}, {5, 1, 0}, {5, 2, 0}, {5, 0, 2}};
        Kit.due("how many", x.has(9), want.length);
        for (int k = 0; k < want.length; k++) {
            for (int what = 0; what < 3; what++) {
                Kit.due("kept " + k + " " + what, x.kept(k, what), want[k][what]);
            }
        }
    }

    @Says(at = "Promise 17", text = "GAIN of a THING by a MENDER")
    static void gains() {
        MendedThings x = Kit.of(Kit.thing("a", 1, 9, 1) + Kit.thing("b", 1, 4, 1) + Kit.mender("m", 3, 4) + Kit.mender("n", 6, 4)
            + "stands glue>4;");
        x.strike(0);
        x.strike(1);
        String ahead = Kit.all(x);
        Kit.due("too rough", x.gain(0, 0), 0);
        Kit.due("fine enough", x.gain(0, 1), 9);
        Kit.due("of the other", x.gain(1, 1), 4);
        Kit.dueAll("nothing is mended", x, ahead);
        x.mend(0, 1);
        Kit.due("mended by now", x.gain(0, 1), NOTHING);
        Kit.due("of the other, as ever", x.gain(1, 1), 4);
    }

    @Says(at = "Promise 23", text = "A THING is struck:")
    static void strikes() {
        MendedThings x = Kit.of(Kit.things(3));
        Kit.due("struck", x.strike(1), true);
        Kit.due("BROKEN", x.thing(1, 3), 1);
        Kit.due("once", x.thing(1, 4), 1);
        Kit.due("it alone", x.has(4), 1);
        Kit.due("KEPT", x.kept(0, 1), 1);
        Kit.due("an ACT", x.has(10), 1);
        Kit.due("none refused", x.status(2), 0);
    }

    @Says(at = "Promise 24", text = "A THING is mended by a MENDER:")
    static void mends() {
        MendedThings x = Kit.of(Kit.things(3) + Kit.mender("m", 3, 4) + Kit.mender("n", 6, 4) + "fine skill*9+breaks;");
        x.strike(1);
        Kit.due("how fine", x.mend(1, 1), 55);
        Kit.due("MENDED", x.thing(1, 3), 2);
        Kit.due("once", x.thing(1, 5), 1);
        Kit.due("its glue", x.thing(1, 6), 55);
        Kit.due("it alone", x.has(5), 1);
        Kit.due("KEPT by whom", x.kept(1, 2), 2);
        Kit.due("an ACT", x.has(10), 2);
        Kit.due("none refused", x.status(2), 0);
    }

    @Says(at = "Promise 25", text = "A THING is FORGED:")
    static void forges() {
        MendedThings x = Kit.of(Kit.things(3));
        Kit.due("forged", x.forge(1), true);
        Kit.due("FORGED", x.thing(1, 7), 1);
        Kit.due("MENDED", x.thing(1, 3), 2);
        Kit.due("its glue", x.thing(1, 6), 50);
        Kit.due("it alone", x.has(7), 1);
        Kit.due("nothing broke or was mended", x.has(9), 0);
        Kit.due("an ACT", x.has(10), 1);
        Kit.due("none refused", x.status(2), 0);
    }

    @Says(at = "Promise 33", text = "The tape (it goes) is AN IMAGE of this ISLAND:")
    static void onTheTape() {
        MendedThings x = Kit.of(Kit.things(2));
        Kit.due("an image", Kit.on(x, Kit.sealed(0, 5, 0, 0, 0, 0, 0, 1, 1, 0, 0, 0)), true);
        Kit.due("the tape goes", x.end(1), false);
        Kit.due("DAY", x.has(3), 5);
        Kit.due("BROKEN", x.later(0, 1), 2);
        Kit.due("of an island of one thing", Kit.on(x, Kit.sealed(0, 6, 0, 0, 0, 0, 0)), false);
        Kit.due("the tape goes, refused, too", x.end(1), false);
        Kit.due("of an island of three", Kit.on(x, Kit.sealed(0, 6, 0, 0, 0, 0, 0, 0, 0, 0, 0, 0, 0, 0, 0, 0, 0)), false);
        Kit.due("DAY stays", x.has(3), 5);
    }
}
