/** The promises 1 to 34, one method each, with answers worked out by hand from the document. */
public final class PromisesTest {
    private static final int NONE = MendedThings.NONE;
    private static final long NOTHING = MendedThings.NOTHING;

    private static final String TWO =
        "thing cup worth 10 use 4 frail 3; thing jug worth 20 use 7 frail 1;"
        + "mender ann skill 5 hours 6; mender bob skill 2 hours 9;"
        + "trial ring is glue>30; trial look is breaks>0;";

    public static void main(String[] args) {
        newObject();
        feed();
        end();
        island();
        islandKeepsAllWithAFault();
        islandAfterIsland();
        longTexts();
        fault();
        has();
        letter();
        thing();
        mender();
        takes();
        fine();
        trial();
        kept();
        later();
        breaks();
        house();
        gain();
        row();
        parts();
        lawed();
        see();
        tells();
        strike();
        mend();
        forge();
        days();
        daysByRank();
        daysAtTheLastDay();
        noDrawBeyondTheLastDay();
        chance();
        undo();
        seed();
        ask();
        image();
        octet();
        on();
        status();
        Kit.finish("PromisesTest");
    }

    private static void due(String what, long got, long want) {
        Kit.due(what, got, want);
    }

    private static void due(String what, boolean got, boolean want) {
        Kit.due(what, got, want);
    }

    /** Promise 1. */
    private static void newObject() {
        MendedThings x = new MendedThings();
        for (int what = 0; what <= 10; what++) {
            due("new has " + what, x.has(what), 0);
        }
        for (int what = 0; what <= 5; what++) {
            due("new status " + what, x.status(what), 0);
        }
        due("new fault", x.fault(0), 0);
        due("new place", x.fault(1), NONE);
        due("new octet", x.octet(0), NONE);
        due("new tape is empty", x.end(1), false);
    }

    /** Promise 2. */
    private static void feed() {
        MendedThings x = new MendedThings();
        for (int k = 1; k <= 80; k++) {
            due("feed " + k, x.feed(0x20202020, 0x20202020, 0x20202020, 0x20202020, 0x20202020), 20 * k);
        }
        due("feed over", x.feed(0, 0, 0, 0, 0), NONE);
        due("feed refused", x.status(0), 1);
        due("1600 blanks are an island", x.island(), 0);
        due("feed behind it", x.feed(0, 0, 0, 0, 0), 20);
        // "total(0-1-2+3)*4*5*6" in five numbers, the highest byte first
        x = Kit.of("thing a worth 1 use 1 frail 1;");
        x.feed(0x746f7461, 0x6c28302d, 0x312d322b, 0x33292a34, 0x2a352a36);
        due("bytes in their order", x.ask(), 0);
        x.feed(0x746f7461, 0x6c203132, 0x2a333435, 0x2d363738, 0x2b393939);
        due("bytes in their order", x.ask(), 12 * 345 - 678 + 999);
        x.feed(-1, -1, -1, -1, -1);
        due("bytes above 127", x.ask(), NOTHING);
        due("bytes above 127 at", x.fault(1), 0);
    }

    /** Promise 3. */
    private static void end() {
        MendedThings x = new MendedThings();
        due("end(0) of none", x.end(0), true);
        due("end(1) of none", x.end(1), false);
        due("end(-1)", x.end(-1), false);
        due("end refused", x.status(0), 2);
        x.feed(0x63617420, 0x353b2020, 0x63617420, 0x363b2020, 0);
        due("end(21) of 20", x.end(21), false);
        due("end(20) of 20", x.end(20), true);
        due("end(16) of 20", x.end(16), true);
        due("end(17) of 16", x.end(17), false);
        due("feed behind end", x.feed(0x63617420, 0x373b2020, 0x20202020, 0x20202020, 0x20202020), 36);
        due("island of what is left", x.island(), 3);
        due("end refused", x.status(0), 4);
    }

    /** Promise 4. */
    private static void island() {
        MendedThings x = new MendedThings();
        due("empty island", x.island(), 0);
        due("statements", Kit.island(x, TWO), 6);
        due("the tape goes", x.end(1), false);
        x.seed(7);
        x.strike(0);
        x.days(3);
        due("day", x.has(3), 3);
        due("kept", x.has(9) > 0, true);
        due("a new one", Kit.island(x, "cat 100;thing a worth 1 use 2 frail 3;"), 2);
        due("day", x.has(3), 0);
        due("kept", x.has(9), 0);
        due("undone", x.has(10), 0);
        due("no menders", x.has(1), 0);
        due("no trials", x.has(2), 0);
        due("broke", x.thing(0, 4), 0);
        due("what", x.thing(0, 3), 0);
        due("use", x.thing(0, 1), 2);
        // defaults: stands is mends > 0, falls never, takes is 4, fine is skill, first is use
        x = Kit.of("thing a worth 1 use 2 frail 9;thing b worth 1 use 3 frail 9;mender m skill 7 hours 4;");
        due("falls never", x.later(60, 3), 0);
        due("takes is 4", x.takes(0, 0), 4);
        due("fine is skill", x.fine(0, 0), 7);
        x.strike(0);
        x.strike(1);
        x.days(1);
        due("first is use", x.thing(1, 3), 2);
        due("the other waits", x.thing(0, 3), 1);
        due("stands is mends > 0", x.has(6), 1);
        // the last cat counts, none is 0
        due("cats", cats("cat 100;cat 0;"), 0);
        due("cats", cats("cat 0;cat 100;"), 9);
        due("cats", cats(""), 0);
    }

    private static int cats(String statements) {
        return Kit.of("thing a worth 1 use 1 frail 1;" + statements).chance(9);
    }

    private static void islandKeepsAllWithAFault() {
        MendedThings x = Kit.of(TWO);
        x.strike(1);
        x.days(2);
        due("faulty", Kit.island(x, "thing a worth 1 use 1 frail 1"), NONE);
        due("the tape goes", x.end(1), false);
        due("refused", x.status(1), 1);
        due("things", x.has(0), 2);
        due("day", x.has(3), 2);
        due("mended", x.has(5), 1);
        due("undone", x.has(10), 2);
        due("kept", x.has(9), 2);
        due("its name", x.letter(0, 1, 0), 10);
        due("its rules", x.trial(1, 1), 1);
    }

    /** Nothing of an island, told or lived, is left in a later one. */
    private static void islandAfterIsland() {
        MendedThings x = new MendedThings();
        String rules = "stands glue > 40;falls day = 0;takes 9;fine 33;first worth;cat 100;trial r is all;";
        for (int k = 0; k < 6; k++) {
            due("told", Kit.island(x, TWO + rules), 13);
            x.strike(0);
            x.forge(1);
            x.mend(0, 0);
            due("faulty", Kit.island(x, TWO + rules + "cat"), NONE);
            due("its glue", x.thing(0, 6), 33);
            due("its trials", x.has(2), 3);
            due("plain", Kit.island(x, "thing a worth 1 use 2 frail 3;thing b worth 1 use 1 frail 1;mender m skill 7 hours 8;"), 3);
            for (int what = 3; what < 9; what++) {
                due("thing " + what, x.thing(0, what), 0);
                due("thing " + what, x.thing(1, what), 0);
            }
            due("no trials", x.has(2), 0);
            due("no falls", x.later(5, 3), 0);
            due("takes", x.takes(0, 0), 4);
            due("fine", x.fine(0, 0), 7);
            due("no cat", x.chance(50), 0);
            x.strike(1);
            x.strike(0);
            x.days(1);
            due("first is use", x.kept(2, 1), 0);
            due("stands", x.has(8), 3);
        }
        due("refused", x.status(1), 6);
    }

    /** Texts that fill the tape, and many of them. */
    private static void longTexts() {
        MendedThings x = Kit.of("thing a worth 1 use 2 frail 3;");
        for (int k = 0; k < 2; k++) {
            due("a question of 1600 bytes", Kit.ask(x, "total " + "1+".repeat(796) + "1 "), 797);
            due("and a test", Kit.ask(x, "often " + "[1=1]or ".repeat(198) + "all" + " ".repeat(7)), 1);
        }
        x = Kit.of("takes " + "1+".repeat(750) + "1;thing a worth 1 use 2 frail 3;mender m skill 3 hours 4;");
        due("a long sum", x.takes(0, 0), 99);
        due("stands as without", x.strike(0) && x.mend(0, 0) == 3 && x.has(8) == 2, true);
        due("1600 bytes", Kit.island(x, "fine " + "skill-1-".repeat(198) + "skill;" + " ".repeat(5)), 1);
    }

    /** Promise 5; the faults themselves are in FaultsTest. */
    private static void fault() {
        MendedThings x = new MendedThings();
        Kit.island(x, "thing use");
        due("fault", x.fault(0), 1);
        due("place", x.fault(1), 6);
        due("fault(2)", x.fault(2), NONE);
        due("fault(-1)", x.fault(-1), NONE);
        Kit.ask(x, "often all");
        due("fault of a whole question", x.fault(0), 0);
        due("place of it", x.fault(1), NONE);
        Kit.ask(x, "often  5");
        due("fault of a question", x.fault(0), 1);
        due("place at its length", x.fault(1), 8);
        Kit.see(x, 0, 1);
        due("see() leaves it", x.fault(1), 8);
        Kit.island(x, "cat 1;");
        due("fault of a whole island", x.fault(0), 0);
        due("place of it", x.fault(1), NONE);
    }

    /** Promise 6. */
    private static void has() {
        MendedThings x = Kit.of(TWO + "thing pot worth 5 use 50 frail 0;");
        due("things", x.has(0), 3);
        due("menders", x.has(1), 2);
        due("trials", x.has(2), 2);
        x.strike(0);
        x.strike(1);
        due("broken", x.has(4), 2);
        x.mend(1, 0);
        x.forge(2);
        due("broken", x.has(4), 1);
        due("mended", x.has(5), 2);
        due("that stand", x.has(6), 1);
        due("forged", x.has(7), 1);
        due("use that stands", x.has(8), 7);
        due("kept", x.has(9), 3);
        due("acts", x.has(10), 4);
        x.days(5);
        due("day", x.has(3), 5);
        due("use that stands", x.has(8), 11);
        due("has(11)", x.has(11), NONE);
        due("has(-1)", x.has(-1), NONE);
    }

    /** Promise 7. */
    private static void letter() {
        MendedThings x = Kit.of("thing abcxyz worth 1 use 1 frail 1; mender z skill 1 hours 1; trial total is all;");
        int[] want = {1, 2, 3, 24, 25, 26};
        for (int k = 0; k < 6; k++) {
            due("letter " + k, x.letter(0, 0, k), want[k]);
        }
        due("letter 6", x.letter(0, 0, 6), NONE);
        due("letter -1", x.letter(0, 0, -1), NONE);
        due("mender's", x.letter(1, 0, 0), 26);
        due("behind it", x.letter(1, 0, 1), 0);
        due("behind it", x.letter(1, 0, 5), 0);
        due("trial's", x.letter(2, 0, 4), 12);
        due("none such", x.letter(0, 1, 0), NONE);
        due("none such", x.letter(1, -1, 0), NONE);
        due("none such", x.letter(2, 1, 0), NONE);
        due("no such kind", x.letter(3, 0, 0), NONE);
        due("no such kind", x.letter(-1, 0, 0), NONE);
    }

    /** Promise 8. */
    private static void thing() {
        MendedThings x = Kit.of("thing a worth 99 use 98 frail 9;thing b worth 0 use 0 frail 0;mender m skill 9 hours 24;");
        int[] first = {99, 98, 9, 0, 0, 0, 0, 0, 0};
        for (int what = 0; what < 9; what++) {
            due("at first " + what, x.thing(0, what), first[what]);
        }
        x.strike(0);
        due("broken", x.thing(0, 3), 1);
        due("broke once", x.thing(0, 4), 1);
        x.mend(0, 0);
        due("mended", x.thing(0, 3), 2);
        due("mended once", x.thing(0, 5), 1);
        due("glue", x.thing(0, 6), 9);
        due("not forged", x.thing(0, 7), 0);
        due("stands", x.thing(0, 8), 1);
        x.strike(0);
        due("glue stays", x.thing(0, 6), 9);
        due("does not stand", x.thing(0, 8), 0);
        x.forge(1);
        due("forged", x.thing(1, 7), 1);
        due("forged, not standing", x.thing(1, 8), 0);
        due("thing 2", x.thing(2, 0), NONE);
        due("thing -1", x.thing(-1, 0), NONE);
        due("what 9", x.thing(0, 9), NONE);
        due("what -1", x.thing(0, -1), NONE);
    }

    /** Promise 9. */
    private static void mender() {
        MendedThings x = Kit.of("mender a skill 0 hours 1;mender b skill 9 hours 24;");
        due("skill", x.mender(0, 0), 0);
        due("hours", x.mender(0, 1), 1);
        due("skill", x.mender(1, 0), 9);
        due("hours", x.mender(1, 1), 24);
        due("mender 2", x.mender(2, 0), NONE);
        due("mender -1", x.mender(-1, 0), NONE);
        due("what 2", x.mender(0, 2), NONE);
        due("what -1", x.mender(0, -1), NONE);
    }

    /** Promise 10. */
    private static void takes() {
        String two = "thing a worth 10 use 1 frail 1;thing b worth 50 use 1 frail 1;"
            + "mender m skill 5 hours 1;mender n skill 9 hours 1;";
        MendedThings x = Kit.of(two + "takes worth - skill * 2;");
        due("10 - 10 is 1", x.takes(0, 0), 1);
        due("10 - 18 is 1", x.takes(0, 1), 1);
        due("50 - 10", x.takes(1, 0), 40);
        due("50 - 18", x.takes(1, 1), 32);
        due("none such", x.takes(2, 0), NONE);
        due("none such", x.takes(0, 2), NONE);
        due("none such", x.takes(-1, 0), NONE);
        due("none such", x.takes(0, -1), NONE);
        x = Kit.of(two + "takes worth * 2;");
        due("100 is 99", x.takes(1, 0), 99);
        x = Kit.of(two + "takes 10 * breaks + mends + 1 + day * 3;");
        due("by what it is", x.takes(0, 0), 1);
        x.strike(0);
        due("by what it is", x.takes(0, 0), 11);
        x.mend(0, 0);
        due("by what it is", x.takes(0, 0), 12);
        x.days(2);
        due("by what it is", x.takes(0, 0), 18);
    }

    /** Promise 11. */
    private static void fine() {
        String two = "thing a worth 10 use 1 frail 1;mender m skill 5 hours 1;mender n skill 9 hours 1;";
        MendedThings x = Kit.of(two + "fine skill - 7 + mends * 3;");
        due("below 0", x.fine(0, 0), 0);
        due("in between", x.fine(0, 1), 2);
        due("none such", x.fine(1, 0), NONE);
        due("none such", x.fine(0, 2), NONE);
        due("none such", x.fine(-1, 0), NONE);
        due("none such", x.fine(0, -1), NONE);
        x.strike(0);
        due("by what is ahead", x.mend(0, 1), 2);
        due("then", x.fine(0, 1), 5);
        x = Kit.of(two + "fine skill * 11;");
        due("55", x.fine(0, 0), 55);
        due("99", x.fine(0, 1), 99);
        x = Kit.of(two + "fine skill * 20;");
        due("above 99", x.fine(0, 0), 99);
    }

    /** Promise 12. */
    private static void trial() {
        MendedThings x = Kit.of("thing a worth 3 use 2 frail 1;thing b worth 4 use 5 frail 6;"
            + "trial r is worth > use;trial s is glue = 50;trial t is day > 0;mender m skill 1 hours 1;");
        due("3 > 2", x.trial(0, 0), 1);
        due("4 > 5", x.trial(0, 1), 0);
        due("glue", x.trial(1, 0), 0);
        x.forge(0);
        due("glue", x.trial(1, 0), 1);
        due("of the other", x.trial(1, 1), 0);
        due("day", x.trial(2, 1), 0);
        x.days(1);
        due("day", x.trial(2, 1), 1);
        due("none such", x.trial(3, 0), NONE);
        due("none such", x.trial(-1, 0), NONE);
        due("none such", x.trial(0, 2), NONE);
        due("none such", x.trial(0, -1), NONE);
    }

    /** Promise 13. */
    private static void kept() {
        MendedThings x = Kit.of("thing a worth 1 use 1 frail 1;thing b worth 1 use 2 frail 2;"
            + "mender m skill 1 hours 1;mender n skill 1 hours 4;falls day = 2 and frail = 2;");
        x.strike(0);
        x.forge(1);
        x.days(3);
        int[][] want = {{0, 0, 0}, {0, 0, 2}, {2, 1, 0}, {2, 1, 2}};
        due("how many", x.has(9), 4);
        for (int k = 0; k < 4; k++) {
            for (int what = 0; what < 3; what++) {
                due("kept " + k + " " + what, x.kept(k, what), want[k][what]);
            }
        }
        due("none such", x.kept(4, 0), NONE);
        due("none such", x.kept(-1, 0), NONE);
        due("no such what", x.kept(0, 3), NONE);
        due("no such what", x.kept(0, -1), NONE);
        for (int k = 0; k < 24; k++) {
            x.strike(0);
            x.mend(0, 0);
        }
        due("50 at most", x.has(9), 50);
        due("the oldest is gone", x.kept(0, 1), 1);
        due("the oldest is gone", x.kept(0, 0), 2);
        due("then", x.kept(1, 2), 2);
        due("the newest", x.kept(49, 2), 1);
        due("none such", x.kept(50, 0), NONE);
    }

    /** Promise 14. */
    private static void later() {
        MendedThings x = Kit.of("thing a worth 1 use 3 frail 1;thing b worth 1 use 5 frail 2;mender m skill 1 hours 4;"
            + "falls day = 3 or day = 5 and frail = 2;");
        due("now stands", x.later(0, 0), 0);
        due("3 days", x.later(3, 3), 0);
        due("4 days broke", x.later(4, 3), 2);
        due("4 days stands", x.later(4, 0), 2);
        due("4 days broken", x.later(4, 1), 1);
        due("4 days use", x.later(4, 2), 5);
        due("5 days stands", x.later(5, 0), 3);
        due("6 days broke", x.later(6, 3), 3);
        due("6 days use", x.later(6, 2), 8);
        due("60 days", x.later(60, 3), 3);
        due("61 days", x.later(61, 3), NONE);
        due("-1 days", x.later(-1, 3), NONE);
        due("no such what", x.later(1, 4), NONE);
        due("no such what", x.later(1, -1), NONE);
        due("nothing changed", x.has(3), 0);
        due("nothing kept", x.has(9), 0);
        x.strike(0);
        due("now broken", x.later(0, 1), 1);
        due("what broke ahead is not in them", x.later(1, 3), 0);
        due("on", Kit.on(x, Kit.sealed(3, 231 - 60, 0, 0, 0, 0, 0, 0, 0, 0, 0, 0)), true);
        due("60 days to DAY 999", x.later(60, 0), 0);
        due("on", Kit.on(x, Kit.sealed(3, 229, 0, 0, 0, 0, 0, 0, 0, 0, 0, 0)), true);
        due("2 days to DAY 999", x.later(2, 0), 0);
        due("3 days beyond it", x.later(3, 0), NONE);
    }

    /** Promise 15. */
    private static void breaks() {
        MendedThings x = Kit.of("thing a worth 1 use 1 frail 1;thing b worth 59 use 1 frail 1;thing c worth 60 use 1 frail 1;"
            + "falls day = worth;");
        due("in the second", x.breaks(0), 2);
        due("in the 60th", x.breaks(1), 60);
        due("in the 61st", x.breaks(2), NONE);
        x.days(1);
        due("in the first", x.breaks(0), 1);
        due("in the 60th", x.breaks(2), 60);
        x.days(1);
        due("it is broken", x.breaks(0), NONE);
        due("none such", x.breaks(3), NONE);
        due("none such", x.breaks(-1), NONE);
        x = Kit.of("thing a worth 1 use 1 frail 1;falls day > 997;");
        Kit.on(x, Kit.sealed(3, 229, 0, 0, 0, 0, 0));
        due("997: in the second", x.breaks(0), 2);
        x = Kit.of("thing a worth 1 use 1 frail 1;falls day > 998;");
        Kit.on(x, Kit.sealed(3, 229, 0, 0, 0, 0, 0));
        due("997: beyond DAY 999", x.breaks(0), NONE);
    }

    /** Promise 16. */
    private static void house() {
        MendedThings x = Kit.of("thing a worth 5 use 3 frail 1;thing b worth 3 use 3 frail 1;thing c worth 2 use 2 frail 1;"
            + "thing d worth 5 use 3 frail 1;mender m skill 3 hours 1;mender n skill 9 hours 9;");
        due("none asked", x.house(0, 0), 0);
        due("none asked", x.house(0, 1), 0);
        due("2", x.house(2, 0), 4);
        due("3", x.house(3, 0), 2);
        due("4", x.house(4, 0), 6);
        due("4", x.house(4, 1), 5);
        due("6: 8 either way, the least bits", x.house(6, 0), 3);
        due("11", x.house(11, 0), 15);
        due("11", x.house(11, 1), 15);
        due("12", x.house(12, 0), NONE);
        due("999", x.house(999, 0), NONE);
        due("as much as can be", hugeHouse().house(792, 0), 255);
        due("1000", x.house(1000, 0), NONE);
        due("-1", x.house(-1, 0), NONE);
        due("what 2", x.house(0, 2), NONE);
        due("what -1", x.house(0, -1), NONE);
        x.strike(1);
        due("b is broken", x.house(3, 0), 1);
        due("nothing changed", x.has(4), 1);
        x.mend(1, 0);
        due("b stands already", x.house(3, 0), 0);
        due("and counts", x.house(5, 0), 4);
        fewest();
        byTheFirstMender();
        due("without menders", Kit.of("thing a worth 5 use 3 frail 1;").house(0, 0), NONE);
    }

    private static MendedThings hugeHouse() {
        StringBuilder text = new StringBuilder("mender m skill 1 hours 24;");
        for (char c = 'a'; c < 'i'; c++) {
            text.append("thing x").append(c).append(" worth 99 use 99 frail 1;");
        }
        return Kit.of(text.toString());
    }

    private static void fewest() {
        MendedThings x = Kit.of("thing a worth 2 use 2 frail 1;thing b worth 2 use 2 frail 1;thing c worth 4 use 4 frail 1;"
            + "mender m skill 3 hours 1;");
        due("worth alike, the fewest", x.house(4, 0), 4);
    }

    private static void byTheFirstMender() {
        // struck first, so fine sees one breaking more; and what stood may fall by it
        MendedThings x = Kit.of("thing a worth 2 use 2 frail 1;thing b worth 2 use 7 frail 1;mender m skill 3 hours 1;mender n skill 9 hours 1;"
            + "fine skill - breaks;stands glue > 1;");
        due("skill 3 - 1", x.house(2, 0), 1);
        x.strike(0);
        x.mend(0, 0);
        due("it stands", x.house(2, 0), 0);
        x.strike(0);
        x.mend(0, 1);
        due("it stands by the other", x.house(9, 0), 2);
        x.strike(0);
        x.forge(1);
        due("forged stands by its glue", x.house(7, 0), 0);
        due("no more", x.house(8, 0), NONE);
        x = Kit.of("thing a worth 2 use 2 frail 1;mender m skill 3 hours 1;fine skill - breaks;stands glue > 2;");
        due("3 - 1 is too coarse", x.house(1, 0), NONE);
    }

    /** Promise 17. */
    private static void gain() {
        MendedThings x = Kit.of("thing a worth 2 use 6 frail 1;mender m skill 3 hours 1;mender n skill 9 hours 1;stands glue > 5;");
        due("it is whole", x.gain(0, 0), NOTHING);
        x.strike(0);
        due("too coarse", x.gain(0, 0), 0);
        due("fine enough", x.gain(0, 1), 6);
        due("nothing changed", x.thing(0, 3), 1);
        due("none such", x.gain(1, 0), NOTHING);
        due("none such", x.gain(-1, 0), NOTHING);
        due("none such", x.gain(0, 2), NOTHING);
        due("none such", x.gain(0, -1), NOTHING);
        x.mend(0, 1);
        due("it is mended", x.gain(0, 1), NOTHING);
    }

    /** Promise 18. */
    private static void row() {
        MendedThings x = Kit.of("thing a worth 9 use 1 frail 1;thing b worth 2 use 5 frail 1;thing c worth 4 use 4 frail 1;"
            + "mender m skill 0 hours 1;mender n skill 9 hours 9;takes worth - skill;");
        due("none broken", x.row(NONE), 0);
        due("no place", x.row(0), NONE);
        x.strike(0);
        x.strike(1);
        x.strike(2);
        // b behind 2, c behind 6, a behind 15
        due("cost", x.row(NONE), 5 * 2 + 4 * 6 + 15);
        due("first", x.row(0), 1);
        due("second", x.row(1), 2);
        due("third", x.row(2), 0);
        due("no fourth", x.row(3), NONE);
        due("no such k", x.row(-2), NONE);
        rowOfSix();
        x = eight();
        for (int t = 7; t >= 2; t--) {
            x.strike(t);
        }
        due("all alike, 4 hours each", x.row(NONE), 4 * 21);
        for (int k = 0; k < 6; k++) {
            due("by numbers", x.row(k), k + 2);
        }
        x.strike(0);
        due("seven are too many", x.row(NONE), NONE);
        due("seven are too many", x.row(0), NONE);
        x = Kit.of("thing a worth 9 use 1 frail 1;");
        x.strike(0);
        due("without menders", x.row(NONE), NONE);
    }

    /** Worth is how long one takes; by use for an hour the order is d, b, f, a, e, c. */
    private static void rowOfSix() {
        MendedThings x = Kit.of("thing a worth 4 use 12 frail 1;thing b worth 2 use 14 frail 1;thing c worth 9 use 1 frail 1;"
            + "thing d worth 1 use 20 frail 1;thing e worth 5 use 10 frail 1;thing f worth 3 use 12 frail 1;"
            + "mender m skill 0 hours 1;takes worth;");
        for (int t = 0; t < 6; t++) {
            x.strike(t);
        }
        int[] want = {3, 1, 5, 0, 4, 2};
        for (int k = 0; k < 6; k++) {
            due("six, place " + k, x.row(k), want[k]);
        }
        due("six", x.row(NONE), 20 + 14 * 3 + 12 * 6 + 12 * 10 + 10 * 15 + 24);
    }

    private static MendedThings eight() {
        StringBuilder text = new StringBuilder("mender m skill 1 hours 24;");
        for (char c = 'a'; c < 'i'; c++) {
            text.append("thing x").append(c).append(" worth 1 use 1 frail 1;");
        }
        return Kit.of(text.toString());
    }

    /** Promise 19. */
    private static void parts() {
        String things = "thing a worth 1 use 1 frail 1;thing b worth 1 use 2 frail 1;thing c worth 1 use 3 frail 1;mender m skill 7 hours 24;";
        MendedThings x = Kit.of(things + "trial p is all;trial q is glue > 9;trial r is mends = 0;");
        due("nothing forged", x.parts(), 0);
        x.forge(0);
        due("nothing to part it from", x.parts(), 0);
        x.strike(1);
        x.mend(1, 0);
        due("q parts, and so does r", x.parts(), 2);
        x = Kit.of(things + "trial p is use > 1;trial q is use > 2;");
        x.strike(0);
        x.mend(0, 0);
        x.strike(2);
        x.mend(2, 0);
        x.forge(1);
        due("both are needed", x.parts(), 3);
        x = Kit.of(things + "trial p is use > 1;trial q is use > 2;trial r is use = 2;");
        x.strike(0);
        x.mend(0, 0);
        x.strike(2);
        x.mend(2, 0);
        x.forge(1);
        due("one is fewer than two", x.parts(), 4);
        x = Kit.of(things + "trial p is use > 2;trial q is use = 9;");
        x.forge(0);
        x.strike(1);
        x.mend(1, 0);
        due("none do", x.parts(), NONE);
        x.strike(0);
        due("nothing forged any more", x.parts(), 0);
    }

    /** Promise 20. */
    private static void lawed() {
        MendedThings x = Kit.of("thing a worth 1 use 1 frail 1;thing b worth 1 use 2 frail 1;thing c worth 1 use 4 frail 1;"
            + "thing d worth 1 use 8 frail 1;mender m skill 7 hours 24;stands mends = 1;");
        x.forge(0);
        for (int k = 0; k < 3; k++) {
            x.strike(3);
            x.mend(3, 0);
            if (k == 0) {
                x.strike(1);
                x.mend(1, 0);
            }
        }
        x.strike(2);
        due("as told", x.lawed(0, 0), 2);
        due("wronged by none", x.lawed(0, 1), 0);
        due("mended", x.lawed(1, 0), 11);
        due("wronged", x.lawed(1, 1), 9);
        due("twice", x.lawed(2, 0), 8);
        due("wronged either way", x.lawed(2, 1), 10);
        x.undo();
        x.strike(0);
        x.mend(0, 0);
        x.strike(0);
        x.mend(0, 0);
        due("just twice", x.lawed(2, 0), 9);
        due("no law", x.lawed(3, 0), NONE);
        due("no law", x.lawed(-1, 0), NONE);
        due("no what", x.lawed(0, 2), NONE);
        due("no what", x.lawed(0, -1), NONE);
        x.strike(3);
        due("broken does not stand", x.lawed(2, 0), 1);
    }

    /** Promise 21. */
    private static void see() {
        // without menders a thing breaks once, on the DAY 9 - frail, so in the DAY AHEAD 10 - frail
        MendedThings x = Kit.of("thing a worth 1 use 1 frail 5;falls day + frail = 9;");
        due("day 1", Kit.see(x, 0, 1), 1 << 9);
        due("day 10", Kit.see(x, 0, 10), 1);
        due("day 11", Kit.see(x, 0, 11), 0);
        due("twice", Kit.see(x, 0, 1, 2), 0);
        due("its own frail stays", x.thing(0, 2), 5);
        due("the tape goes", x.end(1), false);
        due("nothing changed", x.has(3), 0);
        x = Kit.of("thing a worth 1 use 1 frail 5;mender m skill 1 hours 9;falls day = frail or day = 2 * frail;");
        due("first and second", Kit.see(x, 0, 3, 5), 1 << 2);
        due("up to the last one", Kit.see(x, 0, 3), 1 << 2);
        due("just these", Kit.see(x, 0, 5), 1 << 4);
        due("0 but once", Kit.see(x, 0, 1), 1);
        int refused = x.status(1);
        due("like ones", Kit.see(x, 0, 3, 3), NONE);
        due("falling ones", Kit.see(x, 0, 3, 2), NONE);
        due("day 0", Kit.see(x, 0, 0), NONE);
        due("day 0 then 1", Kit.see(x, 0, 0, 1), NONE);
        due("day 31", Kit.see(x, 0, 31), NONE);
        due("day 255", Kit.see(x, 0, 1, 255), NONE);
        due("day 30", Kit.see(x, 0, 30), 0);
        due("none told", Kit.see(x, 0), NONE);
        due("no such thing", Kit.see(x, 1, 1), NONE);
        due("no such thing", Kit.see(x, -1, 1), NONE);
        due("the tape goes", x.end(1), false);
        int[] long20 = new int[21];
        for (int k = 0; k < 21; k++) {
            long20[k] = k + 1;
        }
        due("20 of them", Kit.see(x, 0, java.util.Arrays.copyOf(long20, 20)), 0);
        due("21 of them", Kit.see(x, 0, long20), NONE);
        due("refused", x.status(1), refused + 10);
        Kit.on(x, Kit.sealed(3, 229, 0, 0, 0, 0, 0));
        due("997: day 2", Kit.see(x, 0, 2), 0);
        due("997: day 3", Kit.see(x, 0, 3), NONE);
    }

    /** Promise 22. */
    private static void tells() {
        // on DAY d those fall that are frail by more than d, once: 9 in the first, then one the less
        MendedThings x = Kit.of("thing a worth 1 use 1 frail 5;mender m skill 1 hours 9;falls frail > day;");
        due("the fifth: 5 break", x.tells(0, 0), 5);
        due("5 are left", x.tells(0, 1), 5);
        due("no such what", x.tells(0, 2), NONE);
        due("no such what", x.tells(0, -1), NONE);
        due("none such", x.tells(1, 0), NONE);
        due("none such", x.tells(-1, 0), NONE);
        due("its own frail stays", x.thing(0, 2), 5);
        x = Kit.of("thing a worth 1 use 1 frail 5;");
        due("nothing tells: the first", x.tells(0, 0), 1);
        due("all are left", x.tells(0, 1), 10);
        x = Kit.of("thing a worth 1 use 1 frail 5;mender m skill 1 hours 9;falls day = 29 and frail < 3;");
        due("the 30th", x.tells(0, 0), 30);
        due("7 are left", x.tells(0, 1), 7);
        Kit.on(x, Kit.sealed(3, 231 - 30, 0, 0, 0, 0, 0));
        due("969", x.tells(0, 0), 1);
        Kit.on(x, Kit.sealed(3, 231 - 29, 0, 0, 0, 0, 0));
        due("970", x.tells(0, 0), NONE);
        due("970", x.tells(0, 1), NONE);
    }

    /** Promise 23. */
    private static void strike() {
        MendedThings x = Kit.of(TWO);
        due("strike", x.strike(0), true);
        due("broken", x.thing(0, 3), 1);
        due("twice", x.strike(0), false);
        due("none such", x.strike(2), false);
        due("none such", x.strike(-1), false);
        due("refused", x.status(2), 3);
        due("acts", x.has(10), 1);
        x.forge(1);
        due("a forged one", x.strike(1), true);
        due("not forged any more", x.thing(1, 7), 0);
        due("glue stays", x.thing(1, 6), 50);
        for (int k = 0; k < 120; k++) {
            x.mend(0, 0);
            x.strike(0);
        }
        due("99 at most", x.thing(0, 4), 99);
        due("99 at most", x.thing(0, 5), 99);
    }

    /** Promise 24. */
    private static void mend() {
        MendedThings x = Kit.of(TWO + "takes 99;");
        due("whole", x.mend(0, 0), NONE);
        x.strike(0);
        due("none such", x.mend(0, 2), NONE);
        due("none such", x.mend(0, -1), NONE);
        due("none such", x.mend(2, 0), NONE);
        due("none such", x.mend(-1, 0), NONE);
        due("refused", x.status(2), 5);
        due("his hours are not asked", x.mend(0, 1), 2);
        due("mended", x.mend(0, 1), NONE);
        due("glue", x.thing(0, 6), 2);
        due("kept", x.kept(1, 2), 2);
        due("the same day", x.has(3), 0);
    }

    /** Promise 25. */
    private static void forge() {
        MendedThings x = Kit.of(TWO);
        due("forge", x.forge(0), true);
        due("mended", x.thing(0, 3), 2);
        due("glue", x.thing(0, 6), 50);
        due("never mended", x.thing(0, 5), 0);
        due("never broke", x.thing(0, 4), 0);
        due("not kept", x.has(9), 0);
        due("twice", x.forge(0), false);
        x.strike(1);
        due("broken", x.forge(1), false);
        due("none such", x.forge(2), false);
        due("none such", x.forge(-1), false);
        due("refused", x.status(2), 4);
        due("an act", x.undo() && x.undo(), true);
        due("whole again", x.thing(0, 3), 0);
    }

    /** Promise 26. */
    private static void days() {
        MendedThings x = Kit.of(TWO + "falls day = 1 or day = 3;");
        due("0 days", x.days(0), NONE);
        due("-1 days", x.days(-1), NONE);
        due("101 days", x.days(101), NONE);
        due("refused", x.status(3), 3);
        due("1 day", x.days(1), 0);
        due("3 days", x.days(3), 4);
        due("100 days", x.days(100), 0);
        due("day", x.has(3), 104);
        due("three acts", x.has(10), 3);
        due("the seed is not asked", Kit.of("thing a worth 1 use 1 frail 1;cat 100;").days(9), 0);
    }

    /** Whose turn it is, and whose hands: promise 26 with the DAY of the terms. */
    private static void daysByRank() {
        String things = "thing a worth 4 use 1 frail 1;thing b worth 6 use 9 frail 1;thing c worth 4 use 9 frail 1;";
        MendedThings x = Kit.of(things + "mender m skill 1 hours 5;mender n skill 2 hours 9;takes worth;falls day = 0;");
        x.days(1);
        // b by n (6 of 9), c by m (4 of 5), a waits
        int[][] want = {{0, 0, 0}, {0, 1, 0}, {0, 2, 0}, {0, 1, 2}, {0, 2, 1}};
        due("how many", x.has(9), 5);
        for (int k = 0; k < 5; k++) {
            due("thing " + k, x.kept(k, 1), want[k][1]);
            due("what " + k, x.kept(k, 2), want[k][2]);
        }
        x.days(1);
        due("a on the next day", x.kept(5, 1), 0);
        due("a on the next day", x.kept(5, 0), 1);
        due("hours are new", x.kept(5, 2), 1);
        x = Kit.of(things + "mender m skill 1 hours 14;takes worth;falls day = 0;first 0 - use;");
        x.days(1);
        due("the greatest below 0", x.kept(3, 1), 0);
        due("of like ones the first", x.kept(4, 1), 1);
        due("as long as one can", x.kept(5, 1), 2);
        x = Kit.of(things + "mender m skill 1 hours 24;falls not mends > 2;takes 1;");
        due("a day mends what it broke", x.days(5), 9);
    }

    /** Promises 26, 27: no DAY comes beyond 999; what is refused changes nothing but the count. */
    private static void daysAtTheLastDay() {
        MendedThings x = Kit.of("thing a worth 1 use 1 frail 1;mender m skill 1 hours 4;falls day > 997;cat 100;");
        Kit.on(x, Kit.sealed(3, 230, 0, 0, 0, 0, 0));
        due("998", x.has(3), 998);
        due("two are too many", x.days(2), NONE);
        due("by the seed, too", x.chance(2), NONE);
        due("a hundred", x.days(100), NONE);
        due("no number at all", x.days(Integer.MAX_VALUE), NONE);
        due("no number at all", x.chance(Integer.MAX_VALUE), NONE);
        due("refused", x.status(3), 5);
        due("the day stays", x.has(3), 998);
        due("nothing broke", x.thing(0, 4), 0);
        due("nothing kept", x.has(9), 0);
        due("no act", x.has(10), 0);
        due("to 999", x.days(1), 1);
        due("999", x.has(3), 999);
        due("at 999", x.days(1), NONE);
        due("at 999", x.chance(1), NONE);
        due("refused", x.status(3), 7);
        due("broke once", x.thing(0, 4), 1);
        due("kept twice", x.has(9), 2);
        due("undone", x.undo(), true);
        due("by the seed to 999", x.chance(1), 1);
        due("999", x.has(3), 999);
        due("other acts are free", x.strike(0), true);
        due("on its day", x.kept(x.has(9) - 1, 0), 999);
        Kit.on(x, Kit.sealed(3, 131, 0, 0, 0, 0, 0));
        due("899", x.has(3), 899);
        due("a hundred to 999", x.days(100), 1);
        due("999", x.has(3), 999);
        x.undo();
        x.days(1);
        due("a hundred from 900", x.days(100), NONE);
        due("99 from 900", x.chance(99), 99);
    }

    /** Promise 27: a refused call makes no DRAW. */
    private static void noDrawBeyondTheLastDay() {
        String text = "thing a worth 1 use 1 frail 1;thing b worth 1 use 1 frail 1;thing c worth 1 use 1 frail 1;cat 100;";
        for (int seed = 0; seed < 20; seed++) {
            MendedThings x = Kit.of(text);
            x.seed(seed);
            Kit.on(x, Kit.sealed(3, 231, 0, 0, 0, 0, 0, 0, 0, 0, 0, 0, 0, 0, 0, 0, 0));
            due("at 999", x.chance(1), NONE);
            Kit.island(x, text);
            x.chance(1);
            MendedThings y = Kit.of(text);
            y.seed(seed);
            y.chance(1);
            due("the seed stayed", x.later(0, 1), y.later(0, 1));
        }
    }

    /** Promise 27. */
    private static void chance() {
        MendedThings x = Kit.of("thing a worth 1 use 1 frail 1;thing b worth 1 use 1 frail 1;thing c worth 1 use 1 frail 1;"
            + "cat 50;falls day = 2;");
        due("0 days", x.chance(0), NONE);
        due("101 days", x.chance(101), NONE);
        due("refused", x.status(3), 2);
        x.seed(42);
        long seed = 42;
        int cats = 0;
        int broken = 0;
        for (int k = 0; k < 8; k++) {
            seed = (1103515245L * seed + 12345) % (1L << 31);
            if (seed / 64 % 100 < 50) {
                seed = (1103515245L * seed + 12345) % (1L << 31);
                broken |= 1 << (int) (seed / 64 % 3);
                cats++;
            }
            broken |= k == 2 ? 7 : 0;
        }
        due("cats", x.chance(8), cats);
        due("broken", x.later(0, 1), broken);
        due("day", x.has(3), 8);
        due("one act", x.has(10), 1);
        x.undo();
        due("one act", x.has(3), 0);
        due("none broken", x.has(4), 0);
        // the cat comes ahead of the day, on the same DAY
        x = Kit.of("thing a worth 1 use 1 frail 1;mender m skill 4 hours 4;cat 100;");
        due("each day a cat", x.chance(3), 3);
        for (int k = 0; k < 6; k++) {
            due("kept day", x.kept(k, 0), k / 2);
            due("kept what", x.kept(k, 2), k % 2);
        }
        // a cat counts though what it meets is broken; without things there is none
        due("broken already", Kit.of("thing a worth 1 use 1 frail 1;cat 100;").chance(5), 5);
        due("no things", Kit.of("cat 100;").chance(5), 0);
        // a draw a day without cats, two with one
        x = Kit.of("thing a worth 1 use 1 frail 1;cat 0;");
        x.seed(5);
        x.chance(1);
        Kit.island(x, "thing a worth 1 use 1 frail 1;thing b worth 1 use 1 frail 1;thing c worth 1 use 1 frail 1;cat 100;");
        x.chance(1);
        seed = 5;
        for (int k = 0; k < 3; k++) {
            seed = (1103515245L * seed + 12345) % (1L << 31);
        }
        due("the seed goes on", x.thing((int) (seed / 64 % 3), 3), 1);
    }

    /** Promise 28. */
    private static void undo() {
        MendedThings x = Kit.of(TWO + "falls day = 0;");
        due("none", x.undo(), false);
        due("refused", x.status(4), 1);
        x.days(1);
        int kept = x.has(9);
        x.strike(0);
        x.chance(60);
        due("undo chance", x.undo(), true);
        due("day", x.has(3), 1);
        due("undo strike", x.undo(), true);
        due("kept as ahead", x.has(9), kept);
        due("mended", x.thing(0, 3), 2);
        due("undo days", x.undo(), true);
        due("day", x.has(3), 0);
        due("kept", x.has(9), 0);
        due("whole", x.thing(0, 3), 0);
        due("none", x.undo(), false);
        x.strike(1);
        x.mend(1, 1);
        x.undo();
        due("mending undone", x.thing(1, 3), 1);
        due("glue undone", x.thing(1, 6), 0);
        due("refused acts are none", x.strike(1), false);
        x.undo();
        for (int k = 0; k < 11; k++) {
            x.strike(0);
            x.mend(0, 0);
        }
        due("20 at most", x.has(10), 20);
        for (int k = 0; k < 20; k++) {
            due("undo " + k, x.undo(), true);
        }
        due("the 21st", x.undo(), false);
        due("broke", x.thing(0, 4), 1);
        keptComesBack();
        seedStays();
    }

    private static void keptComesBack() {
        MendedThings x = Kit.of("thing a worth 1 use 1 frail 1;thing b worth 1 use 2 frail 1;mender m skill 1 hours 24;"
            + "takes 1;falls day > 2 and use = 2;");
        x.strike(0);
        x.days(100);
        due("50", x.has(9), 50);
        due("b alone", x.kept(0, 1), 1);
        x.undo();
        due("1", x.has(9), 1);
        due("a", x.kept(0, 1), 0);
        due("day 0", x.kept(0, 0), 0);
        due("broke", x.kept(0, 2), 0);
        x.mend(0, 0);
        x.strike(0);
        x.undo();
        due("mended", x.kept(1, 2), 1);
        x.undo();
        due("not mended", x.thing(0, 5), 0);
        x.undo();
        x.forge(0);
        x.strike(0);
        x.undo();
        due("forged again", x.thing(0, 7), 1);
        x.undo();
        due("not forged", x.thing(0, 7), 0);
    }

    private static void seedStays() {
        String island = "thing a worth 1 use 1 frail 1;thing b worth 1 use 1 frail 1;cat 50;";
        MendedThings x = Kit.of(island);
        MendedThings y = Kit.of(island);
        x.chance(5);
        x.undo();
        y.chance(5);
        Kit.island(y, island);
        due("the seed stays", x.chance(9), y.chance(9));
        due("the seed stays", x.later(0, 1), y.later(0, 1));
    }

    /** Promise 29. */
    private static void seed() {
        MendedThings x = Kit.of("thing a worth 1 use 1 frail 1;cat 50;");
        due("below 0", x.seed(-1), false);
        due("far below", x.seed(Integer.MIN_VALUE), false);
        due("refused", x.status(5), 2);
        due("0", x.seed(0), true);
        // 12345 / 64 is 192, so 92: no cat
        due("from 0", x.chance(1), 0);
        due("greatest", x.seed(Integer.MAX_VALUE), true);
        long next = (1103515245L * Integer.MAX_VALUE + 12345) % (1L << 31);
        due("from the greatest", x.chance(1), next / 64 % 100 < 50 ? 1 : 0);
        due("no act", x.has(10), 2);
        // 1 at first: 1103527590 / 64 is 17242618, so 18: a cat
        due("1 at first", Kit.of("thing a worth 1 use 1 frail 1;cat 19;").chance(1), 1);
        due("1 at first", Kit.of("thing a worth 1 use 1 frail 1;cat 18;").chance(1), 0);
    }

    /** Promise 30. */
    private static void ask() {
        MendedThings x = Kit.of("thing a worth 7 use 3 frail 1;thing b worth 2 use 5 frail 4;thing c worth 9 use 5 frail 0;"
            + "trial p is use = 5;trial q is glue = 50;mender m skill 6 hours 9;");
        x.forge(2);
        x.strike(1);
        x.mend(1, 0);
        x.strike(1);
        x.days(1);
        String[] asked = {
            "first use = 5", "last use=5", "often use=5", "first use>5", "last use>5", "often use>5",
            "total worth", "most worth", "least worth", "total number", "total frail", "most breaks", "total mends",
            "total glue", "total forged", "most day", "total is 0", "total is 1", "total is 2", "total is number", "total is (2-number)",
            "total is is 0", "total is (0-1)", "total 5-3-1", "most 7/2*2", "least (0-7)/2", "least 7/(0-2)", "total worth/0",
            "most 9999*9999", "least (0-9999)*9999", "total 9999*9999", "most 999*1000+9999", "least 0-999*1000-9999",
            "most 9999*9999*0", "most min(worth,use)", "most max(worth,use)", "most 2+3*4", "most (2+3)*4",
            "often not use=5", "often worth>2 and use=5", "often worth>7 or use=3", "often all or not all and not all",
            "often [all or not all] and not all", "often not not all", "first not worth=7 and all", "often use<5",
            "often 1=1 and 2>1 and 1<2", "total 007", "\n often\nall \n", "most 0-9999*9999-9999*9999", "least min(3,max(1,2))",
        };
        long[] want = {
            1, 2, 2, NONE, NONE, 0,
            18, 9, 2, 3, 5, 2, 2,
            56, 1, 1, 2, 1, 0, 0, 1,
            1, 0, 3, 6, -4, -4, 0,
            1000000, -1000000, 3000000, 1000000, -1000000,
            0, 5, 9, 14, 20,
            1, 1, 2, 3,
            0, 3, 1, 1,
            3, 21, 3, -1000000, 2,
        };
        for (int k = 0; k < asked.length; k++) {
            due(asked[k], Kit.ask(x, asked[k]), want[k]);
            due(asked[k] + " without a fault", x.fault(0), 0);
        }
        due("a fault", Kit.ask(x, "often"), NOTHING);
        due("the tape goes", x.end(1), false);
        due("no refusal", x.status(0) + x.status(1), 1);
        MendedThings none = new MendedThings();
        due("no things", Kit.ask(none, "most 5"), 0);
        due("no things", Kit.ask(none, "least 5"), 0);
        due("no things", Kit.ask(none, "total 5"), 0);
        due("no things", Kit.ask(none, "last all"), NONE);
        due("no things", Kit.ask(none, "often all"), 0);
    }

    /** Promise 31. */
    private static void image() {
        MendedThings x = Kit.of(TWO);
        due("bytes", x.image(), 13);
        due("no things", new MendedThings().image(), 3);
        due("eight things", eight().image(), 43);
    }

    /** Promise 32. */
    private static void octet() {
        MendedThings x = Kit.of(TWO);
        due("none yet", x.octet(0), NONE);
        for (int k = 0; k < 3; k++) {
            x.days(100);
        }
        x.forge(0);
        x.strike(1);
        x.mend(1, 1);
        x.strike(1);
        x.image();
        int[] want = Kit.sealed(1, 44, 2, 0, 0, 50, 1, 1, 2, 1, 2, 0);
        for (int k = 0; k < want.length; k++) {
            due("octet " + k, x.octet(k), want[k]);
        }
        due("octet 13", x.octet(13), NONE);
        due("octet -1", x.octet(-1), NONE);
        x.strike(0);
        due("the latest image()", x.octet(2), 2);
        Kit.island(x, "");
        due("the latest image()", x.octet(2), 2);
    }

    /** Promise 33. */
    private static void on() {
        MendedThings x = Kit.of("thing a worth 7 use 3 frail 1;mender m skill 6 hours 9;");
        x.strike(0);
        due("on", Kit.on(x, Kit.sealed(3, 231, 2, 99, 99, 99, 1)), true);
        due("the tape goes", x.end(1), false);
        int[] want = {7, 3, 1, 2, 99, 99, 99, 1, 1};
        for (int what = 0; what < want.length; what++) {
            due("thing " + what, x.thing(0, what), want[what]);
        }
        due("day", x.has(3), 999);
        due("kept", x.has(9), 0);
        due("undone", x.has(10), 0);
        int[][] none = {
            Kit.sealed(3, 232, 0, 0, 0, 0, 0), Kit.sealed(255, 0, 0, 0, 0, 0, 0), Kit.sealed(0, 0, 3, 0, 0, 0, 0),
            Kit.sealed(0, 0, 0, 100, 0, 0, 0), Kit.sealed(0, 0, 0, 0, 100, 0, 0), Kit.sealed(0, 0, 0, 0, 0, 100, 0),
            Kit.sealed(0, 0, 2, 0, 0, 0, 2), Kit.sealed(0, 0, 1, 0, 0, 0, 1), Kit.sealed(0, 0, 0, 0, 0, 0, 1),
            Kit.sealed(0, 0), Kit.sealed(0, 0, 0, 0, 0, 0, 0, 0), Kit.sealed(0, 0, 0, 0, 0, 0), {}, {0}, {0, 0, 0, 0, 0, 0, 0, 0},
        };
        x.strike(0);
        for (int k = 0; k < none.length; k++) {
            due("no image " + k, Kit.on(x, none[k]), false);
            due("the tape goes", x.end(1), false);
            due("refused", x.status(5), k + 1);
        }
        due("all stays", x.has(3), 999);
        due("all stays", x.thing(0, 3), 1);
        due("all stays", x.has(10), 1);
        due("all stays", x.has(9), 1);
        due("each in its place", Kit.on(x, Kit.sealed(2, 1, 1, 2, 3, 4, 0)), true);
        int[] each = {1, 2, 3, 4, 0};
        for (int k = 0; k < 5; k++) {
            due("each in its place", x.thing(0, k + 3), each[k]);
        }
        due("the day", x.has(3), 513);
        due("not forged, mended", Kit.on(x, Kit.sealed(0, 0, 2, 0, 0, 0, 0)), true);
        due("whole with glue", Kit.on(x, Kit.sealed(0, 0, 0, 1, 1, 1, 0)), true);
    }

    /** Promise 34. */
    private static void status() {
        MendedThings x = new MendedThings();
        x.end(1);
        x.see(0);
        Kit.island(x, "x");
        x.strike(0);
        x.mend(0, 0);
        x.forge(0);
        x.days(0);
        x.chance(0);
        x.undo();
        x.seed(-1);
        x.on();
        Kit.ask(x, "x");
        int[] want = {1, 2, 3, 2, 1, 2};
        for (int what = 0; what < 6; what++) {
            due("status " + what, x.status(what), want[what]);
        }
        due("status 6", x.status(6), NONE);
        due("status -1", x.status(-1), NONE);
        Kit.island(x, "cat 1;");
        due("an island leaves it", x.status(2), 3);
    }
}
