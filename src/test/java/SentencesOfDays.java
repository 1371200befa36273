/** Sentences on boundary cases of things, days and acts (Terms II), and of how often an object is called. */
final class SentencesOfDays {
    private static final int NONE = MendedThings.NONE;
    private static final int WHOLE = 0;
    private static final int BROKEN = 1;
    private static final int MENDED = 2;
    private static final String A = Kit.thing("a", 1, 1, 1);
    private static final String M = Kit.mender("m", 7, 4);

    private SentencesOfDays() {
    }

    private static long nextSeed(long x) {
        return (1103515245L * x + 12345) % (1L << 31);
    }

    @Says(at = "Head", text = "An object is used for at most 512 calls after it has been made")
    static void manyCalls() {
        MendedThings x = new MendedThings();
        // 2 feeds, end, island; then 127 times four calls
        Kit.put(x, Kit.bytes(A + "cat 0;"));
        Kit.due("island", x.island(), 2);
        for (int k = 1; k <= 127; k++) {
            Kit.due("feed " + k, x.feed(0, 0, 0, 0, 0), 20);
            Kit.due("ask " + k, x.ask(), MendedThings.NOTHING);
            Kit.due("days " + k, x.days(7), 0);
            Kit.due("has(10) " + k, x.has(10), Math.min(20, k));
        }
    }

    @Says(at = "Head", text = "`NONE = -1`: There is none; it is refused.")
    static void none() {
        Kit.due("NONE", MendedThings.NONE, -1);
    }

    @Says(at = "Head", text = "`NOTHING = -1000000000000000L`: Told where a number below 0 may be one.")
    static void nothing() {
        Kit.due("NOTHING", MendedThings.NOTHING, -1000000000000000L);
        Kit.due("a sum of -1 is one", Kit.ask(Kit.of(A), "total 0-1"), -1);
    }

    // ---- Terms II: things

    @Says(at = "Terms II", text = "It is DAY 0 at first, all are WHOLE.")
    static void atFirst() {
        MendedThings x = Kit.of(Kit.things(8));
        Kit.due("DAY", x.has(3), 0);
        for (int t = 0; t < 8; t++) {
            Kit.due("thing " + t, x.thing(t, 3), WHOLE);
        }
    }

    @Says(at = "Terms II", text = "It STANDS, if it is MENDED, and the TEST of stands holds.")
    static void stands() {
        MendedThings x = Kit.of(Kit.things(3) + M + "stands all;");
        Kit.due("whole ones do not", x.has(6), 0);
        x.strike(0);
        Kit.due("broken ones do not", x.thing(0, 8), 0);
        x.mend(0, 0);
        Kit.due("mended ones do", x.thing(0, 8), 1);
        x.forge(1);
        Kit.due("forged ones are mended", x.thing(1, 8), 1);
        Kit.due("whole ones do not", x.thing(2, 8), 0);
        x = Kit.of(A + M + "stands not all;");
        x.strike(0);
        x.mend(0, 0);
        Kit.due("it does not hold", x.thing(0, 8), 0);
        x = Kit.of(A + M + "stands glue > 6;");
        x.strike(0);
        x.mend(0, 0);
        Kit.due("just above", x.thing(0, 8), 1);
        x = Kit.of(A + M + "stands glue > 7;");
        x.strike(0);
        x.mend(0, 0);
        Kit.due("not just above", x.thing(0, 8), 0);
    }

    @Says(at = "Terms II", text = "A THING breaks: how often it broke is one more (99 at most), it is BROKEN, not FORGED any more.")
    static void breaking() {
        MendedThings x = Kit.of(A + M);
        Kit.on(x, Kit.sealed(0, 0, 0, 97, 0, 0, 0));
        for (int want : new int[] {98, 99, 99, 99}) {
            x.strike(0);
            Kit.due("struck", x.thing(0, 4), want);
            x.mend(0, 0);
        }
        x = Kit.of(A + M + "falls all;");
        Kit.on(x, Kit.sealed(0, 0, 2, 98, 0, 50, 1));
        Kit.due("fell", x.days(1), 1);
        Kit.due("fell, 99", x.thing(0, 4), 99);
        Kit.due("not forged any more", x.thing(0, 7), 0);
        Kit.due("fell again", x.days(1), 1);
        Kit.due("99 at most", x.thing(0, 4), 99);
        Kit.due("fell a hundred times", x.days(100), 100);
        Kit.due("99 at most", x.thing(0, 4), 99);
        x = Kit.of(A + "cat 100;");
        Kit.on(x, Kit.sealed(0, 0, 2, 99, 0, 50, 1));
        x.chance(1);
        Kit.due("by a cat, 99 at most", x.thing(0, 4), 99);
        Kit.due("broken", x.thing(0, 3), BROKEN);
        Kit.due("not forged any more", x.thing(0, 7), 0);
    }

    @Says(at = "Terms II", text = "HOURS for it by a MENDER are the SUM of takes, 1 .. 99 (below is 1, above 99).")
    static void hours() {
        String[] sums = {"0-1000*1000", "0-1", "0", "1", "2", "98", "99", "100", "101", "9999", "1000*1000"};
        int[] want = {1, 1, 1, 1, 2, 98, 99, 99, 99, 99, 99};
        for (int k = 0; k < sums.length; k++) {
            Kit.due(sums[k], Kit.of(A + M + "takes " + sums[k] + ";").takes(0, 0), want[k]);
        }
        // below is 1: with an hour a day one thing a day is mended
        MendedThings x = Kit.of(Kit.things(2) + Kit.mender("m", 1, 1) + "takes 0-5;");
        x.strike(0);
        x.strike(1);
        x.days(1);
        Kit.due("an hour is gone", x.has(4), 1);
    }

    @Says(at = "Terms II", text = "It is mended by one: how often is one more (99 at most)")
    static void mending() {
        MendedThings x = Kit.of(A + M);
        Kit.on(x, Kit.sealed(0, 0, 1, 0, 97, 0, 0));
        for (int want : new int[] {98, 99, 99, 99}) {
            x.mend(0, 0);
            Kit.due("mended", x.thing(0, 5), want);
            x.strike(0);
        }
        Kit.on(x, Kit.sealed(0, 0, 1, 0, 99, 0, 0));
        x.days(1);
        Kit.due("in a day, 99 at most", x.thing(0, 5), 99);
        Kit.due("it is mended", x.thing(0, 3), MENDED);
    }

    @Says(at = "Terms II", text = "it is as fine as the SUM of fine, 0 .. 99 (below is 0, above 99), by what is ahead, it is MENDED.")
    static void fineness() {
        String[] sums = {"0-1000*1000", "0-1", "0", "1", "98", "99", "100", "9999", "1000*1000"};
        int[] want = {0, 0, 0, 1, 98, 99, 99, 99, 99};
        for (int k = 0; k < sums.length; k++) {
            MendedThings x = Kit.of(A + M + "fine " + sums[k] + ";");
            Kit.due(sums[k], x.fine(0, 0), want[k]);
            x.strike(0);
            Kit.due(sums[k], x.mend(0, 0), want[k]);
            Kit.due(sums[k], x.thing(0, 6), want[k]);
        }
        // by what is ahead: how often it was mended is one more only behind it, how often it broke stands already
        MendedThings x = Kit.of(A + M + "fine 10 * mends + breaks;");
        x.strike(0);
        Kit.due("the first time", x.mend(0, 0), 1);
        x.strike(0);
        Kit.due("the second time", x.mend(0, 0), 12);
        x.strike(0);
        x.days(1);
        Kit.due("in a day", x.thing(0, 6), 23);
    }

    // ---- Terms II: a day

    @Says(at = "Terms II", text = "A DAY: FIRST each THING that is not BROKEN, for which the TEST of falls holds, breaks (all by what is ahead).")
    static void falling() {
        MendedThings x = Kit.of(Kit.things(4) + M.replace("hours 4", "hours 1") + "falls all;");
        x.strike(0);
        x.forge(1);
        x.strike(2);
        x.mend(2, 0);
        Kit.due("whole, forged, mended ones", x.days(1), 3);
        Kit.due("a broken one not again", x.thing(0, 4), 1);
        Kit.due("all are broken", x.later(0, 1), 15);
        Kit.due("none is left", x.days(1), 0);
        // falling comes ahead of mending, and what is mended in a day does not fall in it again
        x = Kit.of(A + M + "falls mends < 2;");
        Kit.due("once", x.days(1), 1);
        Kit.due("mended behind it", x.thing(0, 3), MENDED);
        Kit.due("once more", x.days(1), 1);
        Kit.due("no more", x.days(1), 0);
        // the DAY is one more behind all else
        x = Kit.of(A + "falls day = 0;");
        Kit.due("on DAY 0", x.days(1), 1);
        x = Kit.of(A + "falls day = 1;");
        Kit.due("not on DAY 0", x.days(1), 0);
        Kit.due("on DAY 1", x.days(1), 1);
    }

    @Says(at = "Terms II", text = "THEN each MENDER has as many hours left as told.")
    static void hoursAreNew() {
        MendedThings x = Kit.of(Kit.things(3) + Kit.mender("m", 1, 4) + "takes 4;");
        x.strike(0);
        x.strike(1);
        x.strike(2);
        x.days(1);
        Kit.due("one a day", x.has(4), 2);
        x.days(1);
        Kit.due("one a day", x.has(4), 1);
        x.days(1);
        Kit.due("one a day", x.has(4), 0);
        // hours not used are gone with the day
        x = Kit.of(A + Kit.mender("m", 1, 3) + "takes 4;");
        x.strike(0);
        x.days(100);
        Kit.due("never enough", x.has(4), 1);
    }

    @Says(at = "Terms II", text = "THEN, as long as one can: of all THINGS that are BROKEN, and for which a MENDER has HOURS left")
    static void hoursLeft() {
        MendedThings x = Kit.of(Kit.things(3) + Kit.mender("m", 1, 12) + "takes 4;");
        x.strike(0);
        x.strike(1);
        x.strike(2);
        x.days(1);
        Kit.due("just enough for all", x.has(4), 0);
        x = Kit.of(Kit.things(3) + Kit.mender("m", 1, 11) + "takes 4;");
        x.strike(0);
        x.strike(1);
        x.strike(2);
        x.days(1);
        Kit.due("an hour short", x.later(0, 1), 4);
        x = Kit.of(A + Kit.mender("m", 1, 24) + "takes 24;");
        x.strike(0);
        x.days(1);
        Kit.due("all his hours", x.has(4), 0);
        x = Kit.of(A + Kit.mender("m", 1, 24) + "takes 25;");
        x.strike(0);
        x.days(1);
        Kit.due("more than he has", x.has(4), 1);
        x = Kit.of(A);
        x.strike(0);
        x.days(1);
        Kit.due("without menders", x.has(4), 1);
        // the greatest of first can't be mended, a lesser one can
        x = Kit.of(Kit.thing("a", 9, 9, 1) + Kit.thing("b", 2, 1, 1) + Kit.mender("m", 1, 8) + "takes worth;");
        x.strike(0);
        x.strike(1);
        x.days(1);
        Kit.due("what can be", x.later(0, 1), 1);
        // hours of two menders are not put together
        x = Kit.of(A + Kit.mender("m", 1, 3) + Kit.mender("n", 1, 3));
        x.strike(0);
        x.days(1);
        Kit.due("3 and 3 are not 4", x.has(4), 1);
    }

    @Says(at = "Terms II", text = "the one of which the SUM of first is greatest, of like ones the first, is mended by the first of those MENDERS"
        + " (as many HOURS are gone).")
    static void whoIsMendedFirst() {
        MendedThings x = Kit.of(Kit.things(4) + Kit.mender("m", 1, 3) + Kit.mender("n", 1, 8) + Kit.mender("o", 1, 8));
        for (int t = 3; t >= 0; t--) {
            x.strike(t);
        }
        x.days(1);
        // all alike: 0, 1 by n, 2, 3 by o; m has not hours enough
        int[] by = {2, 2, 3, 3};
        for (int k = 0; k < 4; k++) {
            Kit.due("of like ones the first", x.kept(4 + k, 1), k);
            Kit.due("by the first who can", x.kept(4 + k, 2), by[k]);
        }
        x = Kit.of(Kit.thing("a", 1, 1, 1) + Kit.thing("b", 1, 2, 1) + Kit.thing("c", 1, 2, 1) + M + "first 0 - use;");
        x.strike(0);
        x.strike(1);
        x.strike(2);
        x.days(1);
        Kit.due("the greatest, below 0", x.later(0, 1), 6);
        x.days(1);
        Kit.due("of like ones the first", x.later(0, 1), 4);
    }

    @Says(at = "Terms II", text = "The DAY is one more (999 at most).")
    static void lastDay() {
        MendedThings x = Kit.of(A);
        Kit.toDay(x, 997);
        x.days(1);
        Kit.due("998", x.has(3), 998);
        x.days(1);
        Kit.due("999", x.has(3), 999);
        x.days(1);
        Kit.due("999 at most", x.has(3), 999);
        x.chance(1);
        Kit.due("999 at most", x.has(3), 999);
        Kit.due("none is ahead", x.later(1, 0), NONE);
    }

    // ---- Terms II: acts

    @Says(at = "Terms II", text = "ACTS: a THING that is not BROKEN is struck: it breaks")
    static void striking() {
        MendedThings x = Kit.of(Kit.things(3) + M);
        Kit.due("whole", x.strike(0), true);
        Kit.due("broken", x.strike(0), false);
        Kit.due("broken but once", x.thing(0, 4), 1);
        x.mend(0, 0);
        Kit.due("mended", x.strike(0), true);
        x.forge(1);
        Kit.due("forged", x.strike(1), true);
        Kit.due("three acts of striking, one of mending, one of forging", x.has(10), 5);
    }

    @Says(at = "Terms II", text = "a THING that is BROKEN is mended by a MENDER, at once (his hours are not asked)")
    static void mendingAtOnce() {
        MendedThings x = Kit.of(Kit.things(8) + Kit.mender("m", 1, 1) + "takes 99;");
        Kit.due("whole", x.mend(0, 0), NONE);
        for (int t = 0; t < 8; t++) {
            x.strike(t);
            Kit.due("99 hours in one", x.mend(t, 0), 1);
            Kit.due("mended", x.mend(t, 0), NONE);
        }
        Kit.due("the DAY stays", x.has(3), 0);
    }

    @Says(at = "Terms II", text = "a WHOLE one is FORGED: it is MENDED, its glue is 50, all else stays")
    static void forging() {
        MendedThings x = Kit.of(Kit.thing("a", 3, 4, 5) + M + "falls day = 7;");
        Kit.on(x, Kit.sealed(0, 6, 0, 8, 9, 10, 0));
        Kit.due("whole", x.forge(0), true);
        int[] want = {3, 4, 5, MENDED, 8, 9, 50, 1};
        for (int what = 0; what < want.length; what++) {
            Kit.due("thing " + what, x.thing(0, what), want[what]);
        }
        Kit.due("the DAY", x.has(3), 6);
        Kit.due("nothing kept", x.has(9), 0);
        Kit.due("mended", x.forge(0), false);
        x.strike(0);
        Kit.due("broken", x.forge(0), false);
    }

    @Says(at = "Terms II", text = "DAYS by the seed: ahead of each a DRAW of 100: below cat")
    static void belowCat() {
        // the seed 1 draws 18 at first
        Kit.due("18 is below 19", Kit.of(A + "cat 19;").chance(1), 1);
        Kit.due("18 is not below 18", Kit.of(A + "cat 18;").chance(1), 0);
        for (int seed = 0; seed < 300; seed++) {
            MendedThings x = Kit.of(A + "cat 100;");
            x.seed(seed);
            Kit.due("each is below 100", x.chance(1), 1);
            x = Kit.of(A + "cat 0;");
            x.seed(seed);
            Kit.due("none is below 0", x.chance(1), 0);
        }
    }

    @Says(at = "Terms II", text = "if there are THINGS, a DRAW of these: that one breaks, if it is not BROKEN.")
    static void whatACatMeets() {
        MendedThings x = Kit.of("cat 100;");
        Kit.due("no things", x.chance(3), 0);
        // without things three DRAWS of 100 alone were made
        Kit.island(x, Kit.things(8) + "cat 100;");
        x.chance(1);
        long seed = nextSeed(nextSeed(nextSeed(nextSeed(nextSeed(1)))));
        Kit.due("the fifth DRAW is of the things", x.later(0, 1), 1 << (int) (seed / 64 % 8));
        x = Kit.of(A + "cat 100;");
        x.chance(5);
        Kit.due("a broken one not again", x.thing(0, 4), 1);
        Kit.due("kept once", x.has(9), 1);
        x = Kit.of(Kit.things(8) + "cat 100;");
        x.chance(100);
        Kit.due("each of them is met", x.has(4), 8);
        // the cat comes ahead of the day: what it breaks is mended in it, and does not fall again
        x = Kit.of(A + M + "cat 100;falls all;");
        x.chance(1);
        Kit.due("broken once", x.thing(0, 4), 1);
        Kit.due("mended", x.thing(0, 3), MENDED);
    }

    @Says(at = "Terms II", text = "The last 20 can be undone.")
    static void lastTwenty() {
        MendedThings x = Kit.of(A);
        for (int k = 1; k <= 19; k++) {
            x.days(1);
        }
        Kit.due("19", x.has(10), 19);
        x.days(1);
        Kit.due("20", x.has(10), 20);
        x.days(1);
        Kit.due("20 at most", x.has(10), 20);
        for (int k = 20; k >= 1; k--) {
            Kit.due("undo", x.undo(), true);
            Kit.due("DAY", x.has(3), k);
        }
        Kit.due("the 21st can't", x.undo(), false);
        Kit.due("DAY 1", x.has(3), 1);
        // round the ring again
        for (int k = 1; k <= 45; k++) {
            x.days(1);
        }
        for (int k = 45; k >= 26; k--) {
            Kit.due("undo", x.undo(), true);
            Kit.due("DAY", x.has(3), k);
        }
        Kit.due("the 21st can't", x.undo(), false);
    }

    @Says(at = "Terms II", text = "KEPT is each breaking and mending (of DAYS and ACTS): DAY, THING, 0 broke, 1 and on the MENDER and 1")
    static void whatIsKept() {
        MendedThings x = Kit.of(Kit.things(8) + Kit.mender("k", 1, 1) + Kit.mender("l", 1, 1) + Kit.mender("m", 1, 1)
            + Kit.mender("n", 1, 4) + "falls day = 999;");
        Kit.toDay(x, 998);
        x.strike(7);
        x.days(1);
        x.strike(0);
        x.mend(0, 3);
        x.strike(0);
        x.mend(0, 0);
        x.forge(1);
        int[][] want = {{998, 7, 0}, {998, 7, 4}, {999, 0, 0}, {999, 0, 4}, {999, 0, 0}, {999, 0, 1}};
        Kit.due("how many", x.has(9), want.length);
        for (int k = 0; k < want.length; k++) {
            for (int what = 0; what < 3; what++) {
                Kit.due("kept " + k + " " + what, x.kept(k, what), want[k][what]);
            }
        }
    }

    @Says(at = "Terms II", text = "the last 50 are told.")
    static void lastFifty() {
        MendedThings x = Kit.of(Kit.things(8));
        MendedThings y = Kit.of(A + Kit.thing("b", 1, 1, 2) + Kit.mender("m", 1, 24) + "takes 1;falls frail = 2;");
        y.strike(0);
        y.days(24);
        // a breaks, then each day b breaks, and a is mended in the first: 1 + 1 + 48
        Kit.due("50", y.has(9), 50);
        Kit.due("the oldest", y.kept(0, 1), 0);
        Kit.due("its DAY", y.kept(0, 0), 0);
        y.strike(0);
        Kit.due("50 at most", y.has(9), 50);
        Kit.due("the oldest is gone", y.kept(0, 1), 1);
        Kit.due("the newest", y.kept(49, 1), 0);
        Kit.due("its DAY", y.kept(49, 0), 24);
        Kit.due("no 51st", y.kept(50, 0), NONE);
        y.days(100);
        Kit.due("50 at most", y.has(9), 50);
        Kit.due("the newest DAY", y.kept(49, 0), 123);
        Kit.due("the oldest DAY", y.kept(0, 0), 99);
        for (int t = 0; t < 8; t++) {
            x.strike(t);
            Kit.due("fewer", x.has(9), t + 1);
            Kit.due("none behind them", x.kept(t + 1, 0), NONE);
        }
    }

    @Says(at = "Terms II", text = "A DRAW of m: x (the seed) becomes (1103515245 x + 12345) mod 2 to the 31; floor(x / 64) mod m.")
    static void draws() {
        int[] seeds = {0, 1, 63, 64, 65, 12345, 1 << 30, Integer.MAX_VALUE - 1, Integer.MAX_VALUE};
        for (int seed : seeds) {
            MendedThings x = Kit.of(Kit.things(7) + "cat 50;");
            x.seed(seed);
            long s = seed;
            int broken = 0;
            for (int k = 0; k < 30; k++) {
                s = nextSeed(s);
                boolean cat = s / 64 % 100 < 50;
                if (cat) {
                    s = nextSeed(s);
                    broken |= 1 << (int) (s / 64 % 7);
                }
                Kit.due("seed " + seed + " day " + k, x.chance(1), cat ? 1 : 0);
                Kit.due("seed " + seed + " broken " + k, x.later(0, 1), broken);
            }
        }
    }
}
