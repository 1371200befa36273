import java.util.Arrays;
import java.util.Comparator;

/** Sentences on boundary cases of what to break, to mend, to try, to look at, and of what is ahead (Terms III). */
final class SentencesOfPlans {
    private static final int NONE = MendedThings.NONE;
    private static final String M = Kit.mender("m", 7, 4);

    private SentencesOfPlans() {
    }

    private static void mended(MendedThings x, int thing) {
        x.strike(thing);
        x.mend(thing, 0);
    }

    @Says(at = "Terms III", text = "USE that STANDS is the use of all that STAND, together.")
    static void useThatStands() {
        StringBuilder text = new StringBuilder(M);
        for (char c = 'a'; c <= 'h'; c++) {
            text.append(Kit.thing(String.valueOf(c), 99, 99, 9));
        }
        MendedThings x = Kit.of(text.toString());
        Kit.due("none", x.has(8), 0);
        for (int t = 0; t < 8; t++) {
            mended(x, t);
            Kit.due("of " + (t + 1), x.has(8), 99 * (t + 1));
        }
        x.strike(7);
        Kit.due("a broken one is not in it", x.has(8), 99 * 7);
    }

    // ---- houses

    @Says(at = "Terms III", text = "A HOUSE is a set of THINGS that are not BROKEN")
    static void houseOfWhatIsNotBroken() {
        MendedThings x = Kit.of(Kit.thing("a", 1, 5, 1) + Kit.thing("b", 9, 5, 1) + M);
        Kit.due("a, the cheaper one", x.house(5, 0), 1);
        x.strike(0);
        Kit.due("a is broken, so b", x.house(5, 0), 2);
        Kit.due("b's worth", x.house(5, 1), 9);
        Kit.due("both can't be", x.house(6, 0), NONE);
        x.strike(1);
        Kit.due("all are broken", x.house(1, 0), NONE);
        Kit.due("none is needed", x.house(0, 0), 0);
    }

    @Says(at = "Terms III", text = "each struck now, and mended at once by the first MENDER")
    static void houseByTheFirstMender() {
        String two = Kit.thing("a", 1, 5, 1) + Kit.mender("m", 3, 1) + Kit.mender("n", 9, 24);
        Kit.due("the first one's skill", Kit.of(two + "stands glue > 2;").house(5, 0), 1);
        Kit.due("not the second one's", Kit.of(two + "stands glue > 3;").house(5, 0), NONE);
        Kit.due("struck, it broke once more", Kit.of(two + "stands breaks = 1 and mends = 1;").house(5, 0), 1);
        Kit.due("his hours are not asked", Kit.of(two + "takes 99;").house(5, 0), 1);
        Kit.due("fine sees it struck", Kit.of(two + "fine breaks;stands glue = 1;").house(5, 0), 1);
        // what stands may fall by it, what is forged is so no more
        MendedThings x = Kit.of(two + "stands mends < 2;");
        mended(x, 0);
        Kit.due("it stands untouched", x.house(5, 0), 0);
        x = Kit.of(two + "stands glue > 3;");
        x.forge(0);
        Kit.due("a forged one stands untouched", x.house(5, 0), 0);
        Kit.due("nothing came of it", x.thing(0, 4), 0);
    }

    @Says(at = "Terms III", text = "so that as much USE STANDS then as a number, at least (on this DAY)")
    static void houseOfAtLeast() {
        MendedThings x = Kit.of(Kit.thing("a", 1, 5, 1) + Kit.thing("b", 2, 6, 1) + M);
        Kit.due("0", x.house(0, 0), 0);
        Kit.due("1", x.house(1, 0), 1);
        Kit.due("just 5", x.house(5, 0), 1);
        Kit.due("6", x.house(6, 0), 2);
        Kit.due("7", x.house(7, 0), 3);
        Kit.due("just 11", x.house(11, 0), 3);
        Kit.due("12", x.house(12, 0), NONE);
        x = Kit.of(Kit.thing("a", 1, 5, 1) + M + "stands day = 3;");
        Kit.due("not on DAY 0", x.house(5, 0), NONE);
        x.days(3);
        Kit.due("on DAY 3", x.house(5, 0), 1);
        x.days(1);
        Kit.due("not on DAY 4", x.house(5, 0), NONE);
    }

    @Says(at = "Terms III", text = "by which the worth of those struck is least together, of like ones the fewest, then the least bits.")
    static void cheapestHouse() {
        MendedThings x = Kit.of(Kit.thing("a", 4, 9, 1) + Kit.thing("b", 1, 4, 1) + Kit.thing("c", 2, 5, 1) + M);
        Kit.due("3 is less than 4, though two", x.house(9, 0), 6);
        x = Kit.of(Kit.thing("a", 1, 4, 1) + Kit.thing("b", 2, 5, 1) + Kit.thing("c", 3, 9, 1) + M);
        Kit.due("3 is 3: the fewest, though more bits", x.house(9, 0), 4);
        x = Kit.of(Kit.thing("a", 1, 4, 1) + Kit.thing("b", 1, 4, 1) + Kit.thing("c", 1, 4, 1) + M);
        Kit.due("one of three", x.house(4, 0), 1);
        Kit.due("two of three", x.house(8, 0), 3);
        x = Kit.of(Kit.thing("a", 2, 1, 1) + Kit.thing("b", 1, 3, 1) + Kit.thing("c", 2, 3, 1) + Kit.thing("d", 1, 1, 1) + M);
        Kit.due("b alone", x.house(3, 0), 2);
        Kit.due("b and d, of worth 2", x.house(4, 0), 10);
        // of worth 0 none too many is struck
        x = Kit.of(Kit.thing("a", 0, 0, 1) + Kit.thing("b", 0, 3, 1) + Kit.thing("c", 0, 3, 1) + M);
        Kit.due("none", x.house(0, 0), 0);
        Kit.due("one of worth 0", x.house(3, 0), 2);
        Kit.due("its worth", x.house(3, 1), 0);
    }

    @Says(at = "Terms III", text = "GAIN of a THING is by how much more (or less) USE STANDS, if it, BROKEN, is mended now by a MENDER.")
    static void gainOf() {
        MendedThings x = Kit.of(Kit.thing("a", 1, 99, 1) + Kit.thing("b", 1, 0, 1) + Kit.thing("c", 1, 7, 1)
            + Kit.mender("m", 3, 1) + Kit.mender("n", 4, 1) + "stands glue > 3;");
        for (int t = 0; t < 3; t++) {
            x.strike(t);
        }
        Kit.due("not fine enough", x.gain(0, 0), 0);
        Kit.due("just fine enough", x.gain(0, 1), 99);
        Kit.due("of no use", x.gain(1, 1), 0);
        x.mend(0, 1);
        Kit.due("what stands already is not in it", x.gain(2, 1), 7);
        Kit.due("it is not mended by it", x.thing(2, 3), 1);
    }

    // ---- rows

    @Says(at = "Terms III", text = "A ROW is an order of all THINGS that are BROKEN (6 at most)")
    static void rowOfSix() {
        MendedThings x = Kit.of(Kit.things(8) + M);
        Kit.due("of none", x.row(NONE), 0);
        int cost = 0;
        for (int t = 0; t < 6; t++) {
            x.strike(t);
            cost += 4 * (t + 1);
            Kit.due("of " + (t + 1), x.row(NONE), cost);
            Kit.due("its last", x.row(t), t);
            Kit.due("none behind it", x.row(t + 1), NONE);
        }
        x.strike(6);
        for (int k = -1; k < 8; k++) {
            Kit.due("of seven " + k, x.row(k), NONE);
        }
        x.mend(0, 0);
        Kit.due("of six again", x.row(0), 1);
        x.strike(0);
        x.strike(7);
        Kit.due("of eight", x.row(NONE), NONE);
    }

    @Says(at = "Terms III", text = "mended one after the other by the first MENDER alone, without end: each done behind as many HOURS as it and all"
        + " ahead of it take")
    static void rowByTheFirstMender() {
        MendedThings x = Kit.of(Kit.thing("a", 90, 2, 1) + Kit.thing("b", 99, 99, 1) + Kit.mender("m", 0, 1) + Kit.mender("n", 9, 24)
            + "takes worth - 5 * skill;");
        x.strike(0);
        Kit.due("90 hours, though he has one a day", x.row(NONE), 2 * 90);
        x.strike(1);
        Kit.due("b, then a behind both", x.row(NONE), 99 * 99 + 2 * 189);
        Kit.due("b", x.row(0), 1);
        Kit.due("a", x.row(1), 0);
    }

    @Says(at = "Terms III", text = "by which use times these HOURS, of all together, is least; of like ones the first (THING by THING by numbers).")
    static void leastRow() {
        MendedThings x = Kit.of(Kit.thing("a", 4, 2, 1) + Kit.thing("b", 2, 1, 1) + Kit.thing("c", 6, 3, 1) + Kit.mender("m", 0, 1)
            + "takes worth;");
        for (int t = 2; t >= 0; t--) {
            x.strike(t);
        }
        // as much use for an hour each: all orders alike
        Kit.due("cost", x.row(NONE), 2 * 4 + 1 * 6 + 3 * 12);
        for (int k = 0; k < 3; k++) {
            Kit.due("by numbers", x.row(k), k);
        }
        x = Kit.of(Kit.thing("a", 4, 2, 1) + Kit.thing("b", 2, 2, 1) + Kit.thing("c", 1, 2, 1) + Kit.mender("m", 0, 1) + "takes worth;");
        for (int t = 2; t >= 0; t--) {
            x.strike(t);
            Kit.due("the last struck is the longest", x.row(2 - t), t);
        }
        Kit.due("cost", x.row(NONE), 2 * 1 + 2 * 3 + 2 * 7);
        // of no use at all: any order costs 0, the first by numbers is told
        x = Kit.of(Kit.thing("a", 9, 0, 1) + Kit.thing("b", 1, 0, 1) + Kit.mender("m", 0, 1) + "takes worth;");
        x.strike(1);
        x.strike(0);
        Kit.due("cost 0", x.row(NONE), 0);
        Kit.due("by numbers", x.row(0), 0);
        anyOrder(0, new int[6]);
    }

    /** Each order of six is the best one of some six things: the longer, the later; and then with two alike each time. */
    private static void anyOrder(int count, int[] order) {
        if (count == 6) {
            bestOrder(order, 1);
            bestOrder(order, 2);
            return;
        }
        for (int t = 0; t < 6; t++) {
            boolean there = false;
            for (int k = 0; k < count; k++) {
                there |= order[k] == t;
            }
            if (!there) {
                order[count] = t;
                anyOrder(count + 1, order);
            }
        }
    }

    private static void bestOrder(int[] order, int alike) {
        Integer[] want = new Integer[6];
        int[] hours = new int[6];
        for (int k = 0; k < 6; k++) {
            want[k] = order[k];
            hours[order[k]] = 1 + k / alike;
        }
        Arrays.sort(want, Comparator.comparing((Integer t) -> hours[t]).thenComparing(t -> t));
        StringBuilder text = new StringBuilder("takes worth;" + M);
        for (int t = 0; t < 6; t++) {
            text.append(Kit.thing(String.valueOf((char) ('a' + t)), hours[t], 3, 1));
        }
        MendedThings x = Kit.of(text.toString());
        for (int t = 0; t < 6; t++) {
            x.strike(t);
        }
        for (int k = 0; k < 6; k++) {
            Kit.due(Arrays.toString(want) + " by " + Arrays.toString(hours) + ", place " + k, x.row(k), want[k]);
        }
    }

    // ---- trials, laws

    @Says(at = "Terms III", text = "A set of TRIALS PARTS THINGS that are FORGED, if none of them is as any THING that is MENDED, not FORGED, by all"
        + " TRIALS of the set: the fewest, of like ones the least bits.")
    static void partingTrials() {
        String three = Kit.thing("a", 1, 1, 1) + Kit.thing("b", 1, 2, 1) + Kit.thing("c", 1, 3, 1) + M;
        MendedThings x = Kit.of(three + "trial p is use > 1;trial q is use > 2;trial r is use = 2;");
        x.forge(1);
        Kit.due("whole ones need no parting", x.parts(), 0);
        x.strike(0);
        Kit.due("broken ones neither", x.parts(), 0);
        x.mend(0, 0);
        Kit.due("p and r part them: the least bits", x.parts(), 1);
        mended(x, 2);
        Kit.due("r alone: the fewest, though more bits", x.parts(), 4);
        x = Kit.of(three + "trial p is use > 1;trial q is use > 2;");
        mended(x, 0);
        mended(x, 2);
        x.forge(1);
        Kit.due("both are needed", x.parts(), 3);
        x = Kit.of(three + "trial p is all;trial q is not all;");
        mended(x, 0);
        x.forge(1);
        Kit.due("all are alike", x.parts(), NONE);
        x = Kit.of(three);
        mended(x, 0);
        x.forge(1);
        Kit.due("without trials", x.parts(), NONE);
        // forged ones need not be parted from one another
        x = Kit.of(three + "trial p is glue = 50;");
        x.forge(0);
        x.forge(1);
        mended(x, 2);
        Kit.due("two forged ones", x.parts(), 1);
    }

    @Says(at = "Terms III", text = "the fewest, of like ones the least bits.")
    static void fewestTrials() {
        // forged are things 0, 1; thing 2 is parted from 0 by p, s and t, from 1 by q, r, t
        String text = Kit.thing("a", 1, 1, 1) + Kit.thing("b", 1, 2, 1) + Kit.thing("c", 1, 3, 1) + M
            + "trial p is use = 1;trial q is use = 2;trial r is use = 2;trial s is use = 1;";
        MendedThings x = Kit.of(text);
        x.forge(0);
        x.forge(1);
        mended(x, 2);
        Kit.due("p with q, of four pairs", x.parts(), 3);
        x = Kit.of(text + "trial t is use < 3;");
        x.forge(0);
        x.forge(1);
        mended(x, 2);
        Kit.due("the fifth alone", x.parts(), 16);
    }

    @Says(at = "Terms III", text = "LAWS compared: by law 0 it STANDS as told, by law 1 if it is MENDED, by law 2 if it is MENDED, was mended twice,"
        + " at least")
    static void laws() {
        MendedThings x = Kit.of(Kit.thing("a", 1, 1, 1) + Kit.thing("b", 1, 2, 1) + Kit.thing("c", 1, 4, 1) + Kit.thing("d", 1, 8, 1)
            + Kit.thing("e", 1, 16, 1) + Kit.thing("f", 1, 32, 1) + M + "stands mends = 3;");
        // a whole, b forged, c mended once, d twice, e three times, f twice and broken
        x.forge(1);
        int[] times = {0, 0, 1, 2, 3, 2};
        for (int t = 0; t < times.length; t++) {
            for (int k = 0; k < times[t]; k++) {
                mended(x, t);
            }
        }
        x.strike(5);
        Kit.due("as told", x.lawed(0, 0), 16);
        Kit.due("mended", x.lawed(1, 0), 2 + 4 + 8 + 16);
        Kit.due("mended twice, at least", x.lawed(2, 0), 8 + 16);
    }

    @Says(at = "Terms III", text = "WRONGED are THINGS that STAND by the told one, not by it, or the other way round.")
    static void wronged() {
        MendedThings x = Kit.of(Kit.things(4) + M + "stands mends < 2;");
        x.forge(0);
        mended(x, 1);
        mended(x, 2);
        mended(x, 2);
        Kit.due("by law 0 none", x.lawed(0, 1), 0);
        Kit.due("by law 1 it stands, not as told", x.lawed(1, 1), 4);
        Kit.due("by law 2 either way", x.lawed(2, 1), 1 + 2 + 4);
        x = Kit.of(Kit.things(8) + M + "stands not all;");
        for (int t = 0; t < 8; t++) {
            mended(x, t);
        }
        Kit.due("all eight", x.lawed(1, 1), 255);
        Kit.due("none was mended twice", x.lawed(2, 1), 0);
        mended(x, 7);
        Kit.due("the eighth was", x.lawed(2, 1), 128);
    }

    // ---- ahead

    @Says(at = "Terms III", text = "AHEAD are DAYS as they come from now on without DRAWS (60 at most, not beyond DAY 999).")
    static void ahead() {
        MendedThings x = Kit.of(Kit.thing("a", 1, 1, 1) + "cat 100;");
        Kit.due("without cats", x.later(60, 1), 0);
        Kit.due("60", x.later(60, 3), 0);
        Kit.due("61", x.later(61, 3), NONE);
        for (int day : new int[] {938, 939, 940, 998, 999}) {
            Kit.toDay(x, day);
            int most = Math.min(60, 999 - day);
            Kit.due("DAY " + day + ", the most", x.later(most, 3), 0);
            Kit.due("DAY " + day + ", one more", x.later(most + 1, 3), NONE);
        }
        x = Kit.of(Kit.thing("a", 1, 1, 7) + "falls day = 9 * frail - 5;");
        Kit.due("as they come: DAY 58 is the 59th", x.breaks(0), 59);
        x = Kit.of(Kit.thing("a", 1, 1, 1) + "falls day = 998;");
        Kit.toDay(x, 939);
        Kit.due("in the 60th", x.breaks(0), 60);
        Kit.toDay(x, 938);
        Kit.due("in the 61st", x.breaks(0), NONE);
        Kit.toDay(x, 998);
        Kit.due("in the first", x.breaks(0), 1);
        x = Kit.of(Kit.thing("a", 1, 1, 1) + "falls day = 999;");
        Kit.toDay(x, 998);
        Kit.due("beyond DAY 999", x.breaks(0), NONE);
        Kit.toDay(x, 999);
        Kit.due("beyond DAY 999", x.breaks(0), NONE);
        x = Kit.of(Kit.thing("a", 1, 1, 1) + "cat 50;");
        MendedThings y = Kit.of(Kit.thing("a", 1, 1, 1) + "cat 50;");
        for (int k = 0; k < 20; k++) {
            x.later(k, 0);
            x.breaks(0);
            Kit.due("the seed goes on as without looking ahead", x.chance(1), y.chance(1));
        }
    }

    // ---- how frail

    @Says(at = "Terms III", text = "FRAIL can be a THING (0 .. 9), if, were it so, it breaks in just the DAYS AHEAD (the first one is 1) that are told"
        + " as SEEN, up to the last one of these.")
    static void frail() {
        MendedThings x = Kit.of(Kit.thing("a", 1, 1, 5) + M + "falls day = frail;");
        for (int frail = 0; frail <= 9; frail++) {
            Kit.due("day " + (frail + 1), Kit.see(x, 0, frail + 1), 1 << frail);
        }
        Kit.due("day 11: none", Kit.see(x, 0, 11), 0);
        Kit.due("one too many", Kit.see(x, 0, 3, 4), 0);
        // from now on
        x.days(2);
        Kit.due("frail 2 in the first", Kit.see(x, 0, 1), 1 << 2);
        Kit.due("frail 9 in the eighth", Kit.see(x, 0, 8), 1 << 9);
        // what comes behind the last one is not asked, what comes ahead of it is
        x = Kit.of(Kit.thing("a", 1, 1, 5) + M + "falls day = frail or day = 9;");
        Kit.due("up to the third", Kit.see(x, 0, 3), 1 << 2);
        Kit.due("up to the tenth", Kit.see(x, 0, 3, 10), 1 << 2);
        Kit.due("the tenth alone", Kit.see(x, 0, 10), 1 << 9);
        x = Kit.of(Kit.thing("a", 1, 1, 5) + M + "falls day = 0;");
        Kit.due("all can be", Kit.see(x, 0, 1), 1023);
        Kit.due("its own number stays", x.thing(0, 2), 5);
        x = Kit.of(Kit.thing("a", 1, 1, 5) + M + "falls day = frail;");
        Kit.see(x, 0, 1);
        Kit.due("what is ahead stays, too", x.breaks(0), 6);
        x.days(1);
        x.undo();
        Kit.due("and what is undone", x.breaks(0), 6);
        x = Kit.of(Kit.thing("a", 1, 1, 5) + Kit.thing("b", 1, 1, 5) + M + "falls day = frail;");
        Kit.due("of b", Kit.see(x, 1, 1), 1);
        x = Kit.of(Kit.thing("a", 1, 1, 5) + M + "falls day = 29 + frail;");
        Kit.due("the 30th", Kit.see(x, 0, 30), 1);
    }

    @Says(at = "Terms III", text = "TELLING is the DAY AHEAD (1 .. 30) by which, whether it breaks in it or not, the most numbers (of 0 .. 9) left are"
        + " fewest; of like ones the first.")
    static void telling() {
        // in the day d + 1 those break that are frail by d or more
        MendedThings x = Kit.of(Kit.thing("a", 1, 1, 5) + M + "falls not frail < day;");
        Kit.due("9 down to 0 break: 5 in the sixth", x.tells(0, 0), 6);
        Kit.due("5 left either way", x.tells(0, 1), 5);
        x = Kit.of(Kit.thing("a", 1, 1, 5) + M + "falls day = 0 and frail < 3 or day = 29 and frail < 7;");
        Kit.due("7 left in the first, and in the 30th", x.tells(0, 0), 1);
        Kit.due("7 left", x.tells(0, 1), 7);
        x = Kit.of(Kit.thing("a", 1, 1, 5) + M + "falls day = 0 and frail < 3 or day = 29 and frail < 6;");
        Kit.due("6 left in the 30th", x.tells(0, 0), 30);
        Kit.due("6 left", x.tells(0, 1), 6);
        x = Kit.of(Kit.thing("a", 1, 1, 5) + M + "falls day = 30 and frail < 5;");
        Kit.due("the 31st does not tell", x.tells(0, 0), 1);
        Kit.due("all are left", x.tells(0, 1), 10);
        x = Kit.of(Kit.thing("a", 1, 1, 5) + M + "falls all;");
        Kit.due("all break each day", x.tells(0, 0), 1);
        Kit.due("all are left", x.tells(0, 1), 10);
    }
}
