import java.util.Arrays;

/** Sentences on boundary cases of texts told, answers and plans: the promises 1 to 22. */
final class SentencesOfAnswers {
    private static final int NONE = MendedThings.NONE;
    private static final long NOTHING = MendedThings.NOTHING;
    private static final int[] ODD = {-1, -2, Integer.MIN_VALUE, Integer.MAX_VALUE};
    private static final int BLANKS = 0x20202020;
    private static final String A = Kit.thing("a", 1, 1, 1);
    private static final String M = Kit.mender("m", 7, 4);

    private SentencesOfAnswers() {
    }

    private static int feedBlanks(MendedThings x) {
        return x.feed(BLANKS, BLANKS, BLANKS, BLANKS, BLANKS);
    }

    // ---- promise 1 to 5

    @Says(at = "Promise 1", text = "No island, nothing.")
    static void newObject() {
        MendedThings x = new MendedThings();
        for (int what = 0; what <= 10; what++) {
            Kit.due("has " + what, x.has(what), 0);
        }
        for (int what = 0; what <= 5; what++) {
            Kit.due("status " + what, x.status(what), 0);
        }
        Kit.due("no image", x.octet(0), NONE);
        Kit.due("an empty tape", x.end(1), false);
        Kit.due("nothing to part", x.parts(), 0);
        Kit.due("nothing ahead", x.later(60, 0) + x.later(60, 1) + x.later(60, 2) + x.later(60, 3), 0);
        Kit.due("by law 2", x.lawed(2, 0) + x.lawed(2, 1), 0);
        Kit.due("days go by", x.days(1), 0);
        Kit.due("an image of the DAY alone", x.image(), 3);
    }

    @Says(at = "Promise 2", text = "Twenty bytes come behind those on the tape, of each number the highest first: how many there are")
    static void feedTwenty() {
        MendedThings x = Kit.of(A);
        // "total 1234-567+89*10": the bytes 0x80 and on are no letters, the highest bit does not spread
        Kit.due("20", x.feed(0x746f7461, 0x6c203132, 0x33342d35, 0x36372b38, 0x392a3130), 20);
        Kit.due("in their order", x.ask(), 1234 - 567 + 890);
        x.feed(0xffffffff, 0x80000000, 0x7fffffff, 0, -2);
        Kit.due("40", feedBlanks(x), 40);
        Kit.due("no text", x.ask(), NOTHING);
        Kit.due("20 again", feedBlanks(x), 20);
        // an image with high bytes: DAY 999, a glue of 99
        int[] image = Kit.sealed(3, 231, 2, 99, 98, 97, 1);
        x.end(0);
        x.feed(image[0] << 24 | image[1] << 16 | image[2] << 8 | image[3], image[4] << 24 | image[5] << 16 | image[6] << 8 | image[7],
            0, 0, 0);
        x.end(8);
        Kit.due("an image", x.on(), true);
        Kit.due("DAY", x.has(3), 999);
        Kit.due("glue", x.thing(0, 6), 97);
    }

    @Says(at = "Promise 2", text = "NONE, refused (0), if there would be more than 1600.")
    static void feedTooMuch() {
        MendedThings x = new MendedThings();
        for (int k = 1; k <= 80; k++) {
            Kit.due("feed " + k, feedBlanks(x), 20 * k);
        }
        Kit.due("none refused", x.status(0), 0);
        Kit.due("1620", feedBlanks(x), NONE);
        Kit.due("refused", x.status(0), 1);
        Kit.due("1600 are there", x.end(1600), true);
        Kit.due("one less", x.end(1599), true);
        Kit.due("1619", feedBlanks(x), NONE);
        Kit.due("1599 are there, none more", x.end(1600), false);
        x.end(1581);
        Kit.due("1601", feedBlanks(x), NONE);
        x.end(1580);
        Kit.due("1600", feedBlanks(x), 1600);
        Kit.due("refused", x.status(0), 4);
        Kit.due("an island of 1600 blanks", x.island(), 0);
        Kit.due("the tape is free", feedBlanks(x), 20);
    }

    @Says(at = "Promise 3", text = "The tape has its first n bytes alone: true")
    static void endOfTape() {
        MendedThings x = Kit.of(A);
        x.feed(0x746f7461, 0x6c203132, 0x33342d35, 0x36372b38, 0x392a3130);
        Kit.due("all of them", x.end(20), true);
        Kit.due("10 of them", x.end(10), true);
        Kit.due("the first ones", x.ask(), 1234);
        feedBlanks(x);
        Kit.due("none of them", x.end(0), true);
        Kit.due("none of none", x.end(0), true);
        Kit.due("feed from none on", feedBlanks(x), 20);
        x.end(1);
        Kit.due("feed behind one", feedBlanks(x), 21);
    }

    @Says(at = "Promise 3", text = "false, refused (0), if it has not so many, or n is below 0.")
    static void endRefused() {
        MendedThings x = new MendedThings();
        Kit.due("1 of none", x.end(1), false);
        feedBlanks(x);
        Kit.due("21 of 20", x.end(21), false);
        for (int n : ODD) {
            Kit.due("end " + n, x.end(n), false);
        }
        Kit.due("refused", x.status(0), 6);
        Kit.due("the tape stays", x.end(20), true);
        x.end(7);
        Kit.due("8 of 7", x.end(8), false);
        Kit.due("7 of 7", x.end(7), true);
        Kit.due("refused", x.status(0), 7);
    }

    @Says(at = "Promise 4", text = "The tape (it goes) is THE ISLAND: how many STATEMENTS")
    static void islandOfTheTape() {
        MendedThings x = new MendedThings();
        Kit.due("of an empty tape", x.island(), 0);
        Kit.due("of one", Kit.island(x, "cat 1;"), 1);
        Kit.due("the tape goes", x.end(1), false);
        Kit.due("of 80", Kit.island(x, "cat 1;".repeat(80)), 80);
        Kit.due("an empty one again", x.island(), 0);
        for (int k = 0; k < 4; k++) {
            Kit.due("of 1600 bytes", Kit.island(x, "first " + "1+".repeat(796) + "1;"), 1);
        }
        Kit.island(x, "x");
        Kit.due("the tape goes with a fault, too", x.end(1), false);
    }

    @Says(at = "Promise 4", text = "NONE, refused (1), with a FAULT (all stays).")
    static void islandRefused() {
        MendedThings x = Kit.of(Kit.things(2) + M + "trial r is glue > 1;falls day = 3;takes 7;fine 8;first 9;cat 100;");
        x.strike(0);
        x.mend(0, 0);
        x.forge(1);
        x.days(2);
        x.image();
        String ahead = Kit.all(x);
        String[] faulty = {"x", "cat 101;", A + A, "takes (((((((1;", "takes 1;takes 1;", "cat 1;".repeat(81),
            Kit.things(8) + "mender x skill 1 hours 1;takes 5;fine 6;cat 0"};
        for (int k = 0; k < faulty.length; k++) {
            Kit.due(faulty[k], Kit.island(x, faulty[k]), NONE);
            Kit.due("refused", x.status(1), k + 1);
            Kit.dueAll(faulty[k], x, ahead);
            Kit.due("its trials", x.trial(0, 0), 1);
            Kit.due("its takes", x.takes(0, 0), 7);
            Kit.due("its fine", x.fine(0, 0), 8);
            Kit.due("its falls", x.breaks(0), 2);
            Kit.due("its names", x.letter(1, 0, 0), 13);
            Kit.due("its image", x.octet(1), 2);
        }
        Kit.due("its cat", x.chance(1), 1);
    }

    @Says(at = "Promise 4", text = "Without one all is as at first, nothing is KEPT or can be undone; the seed stays.")
    static void islandAnew() {
        String text = Kit.things(3) + M + "cat 50;";
        MendedThings x = Kit.of(text);
        x.seed(77);
        x.strike(0);
        x.mend(0, 0);
        x.forge(1);
        x.days(9);
        x.chance(4);
        Kit.due("the same again", Kit.island(x, text), 5);
        Kit.due("as at first", Kit.all(x).equals(Kit.all(Kit.of(text))), true);
        Kit.due("none KEPT", x.kept(0, 0), NONE);
        Kit.due("none to undo", x.undo(), false);
        // four days went by the seed 77 already
        MendedThings y = Kit.of(text);
        y.seed(77);
        y.chance(4);
        for (int k = 0; k < 12; k++) {
            Kit.due("the seed stays", x.chance(1), y.chance(1));
        }
        // nothing of the islands ahead is left
        String full = Kit.things(8) + Kit.mender("m", 1, 9) + Kit.mender("n", 1, 9) + "trial r is all;trial s is all;stands not all;"
            + "falls all;takes 9;fine 8;first 0-use;cat 100;";
        Kit.due("a full one", Kit.island(x, full), 18);
        Kit.due("a full one", Kit.island(x, full), 18);
        Kit.due("a plain one", Kit.island(x, A + Kit.thing("b", 1, 2, 1) + M), 3);
        Kit.due("its trials", x.has(2), 0);
        Kit.due("its menders", x.has(1), 1);
        Kit.due("its takes", x.takes(0, 0), 4);
        Kit.due("its fine", x.fine(0, 0), 7);
        Kit.due("its falls and cat", x.chance(50) + x.has(4), 0);
        x.strike(0);
        x.strike(1);
        x.days(1);
        Kit.due("its first", x.thing(1, 3), 2);
        Kit.due("its stands", x.has(8), 2);
        Kit.due("an empty one", x.island(), 0);
        for (int what = 0; what <= 10; what++) {
            Kit.due("has " + what, x.has(what), 0);
        }
    }

    @Says(at = "Promise 5", text = "its FAULT (what 0; 0 without, and ahead of any), its place (1; NONE without).")
    static void faults() {
        MendedThings x = new MendedThings();
        Kit.due("ahead of any", x.fault(0), 0);
        Kit.due("ahead of any", x.fault(1), NONE);
        Kit.island(x, "cat 1;cat 101;");
        Kit.due("of an island", x.fault(0), 2);
        Kit.due("its place", x.fault(1), 10);
        Kit.ask(x, "total 5");
        Kit.due("without, of a question", x.fault(0), 0);
        Kit.due("without, of a question", x.fault(1), NONE);
        Kit.ask(x, "!");
        Kit.due("of a question", x.fault(0), 1);
        Kit.due("at place 0", x.fault(1), 0);
        Kit.island(x, "");
        Kit.due("without, of an island", x.fault(0), 0);
        Kit.due("without, of an island", x.fault(1), NONE);
        Kit.island(x, " ".repeat(1595) + "cat 1");
        Kit.due("at the last place", x.fault(1), 1600);
        // of the latest island() or ask() alone
        Kit.see(x, 0, 99);
        Kit.on(x, 99);
        x.days(0);
        Kit.due("see(), on(), days() leave it", x.fault(0), 1);
        Kit.due("see(), on(), days() leave it", x.fault(1), 1600);
    }

    @Says(at = "Promise 5", text = "NONE for another what.")
    static void faultOfAnother() {
        MendedThings x = new MendedThings();
        Kit.island(x, "cat 101;");
        Kit.due("fault 2", x.fault(2), NONE);
        for (int what : ODD) {
            Kit.due("fault " + what, x.fault(what), NONE);
        }
    }

    // ---- promise 6 to 13

    @Says(at = "Promise 6", text = "9 what is told as KEPT, 10 ACTS that can be undone.")
    static void hasAtTheMost() {
        MendedThings x = Kit.of(A + M);
        for (int k = 1; k <= 60; k++) {
            x.strike(0);
            Kit.due("KEPT", x.has(9), Math.min(50, 2 * k - 1));
            Kit.due("ACTS", x.has(10), Math.min(20, 2 * k - 1));
            x.mend(0, 0);
            Kit.due("KEPT", x.has(9), Math.min(50, 2 * k));
            Kit.due("ACTS", x.has(10), Math.min(20, 2 * k));
        }
    }

    @Says(at = "Promise 6", text = "How many there are: 0 THINGS, 1 MENDERS, 2 TRIALS, 3 DAY, 4 BROKEN, 5 MENDED, 6 that STAND, 7 FORGED, 8 USE that"
        + " STANDS")
    static void hasOfAll() {
        StringBuilder text = new StringBuilder("stands all;");
        for (int k = 0; k < 8; k++) {
            text.append(Kit.thing("t" + (char) ('a' + k), 99, 99, 9));
            text.append(k < 4 ? Kit.mender("m" + (char) ('a' + k), 9, 24) : "");
            text.append(k < 5 ? "trial r" + (char) ('a' + k) + " is all;" : "");
        }
        MendedThings x = Kit.of(text.toString());
        int[] full = {8, 4, 5, 0, 0, 0, 0, 0, 0};
        for (int what = 0; what < full.length; what++) {
            Kit.due("full, has " + what, x.has(what), full[what]);
        }
        for (int t = 0; t < 8; t++) {
            x.forge(t);
        }
        int[] forged = {8, 4, 5, 0, 0, 8, 8, 8, 792};
        for (int what = 0; what < forged.length; what++) {
            Kit.due("forged, has " + what, x.has(what), forged[what]);
        }
        for (int t = 0; t < 8; t++) {
            x.strike(t);
        }
        int[] broken = {8, 4, 5, 0, 8, 0, 0, 0, 0};
        for (int what = 0; what < broken.length; what++) {
            Kit.due("broken, has " + what, x.has(what), broken[what]);
        }
        Kit.on(x, Kit.sealed(Arrays.copyOf(new int[] {3, 231}, 42)));
        Kit.due("DAY", x.has(3), 999);
    }

    @Says(at = "Promise 6", text = "NONE for others.")
    static void hasOfOthers() {
        MendedThings x = Kit.of(A);
        Kit.due("has 11", x.has(11), NONE);
        for (int what : ODD) {
            Kit.due("has " + what, x.has(what), NONE);
        }
    }

    @Says(at = "Promise 7", text = "Letter k (0 .. 5) of the NAME of a THING (kind 0), a MENDER (1), a TRIAL (2): 1 .. 26; 0 behind it")
    static void letters() {
        MendedThings x = Kit.of("thing abyzza worth 1 use 1 frail 1;thing zzzzzz worth 1 use 1 frail 1;thing q worth 1 use 1 frail 1;"
            + "mender az skill 1 hours 1;trial zazaz is all;");
        int[][] want = {{0, 0, 1, 2, 25, 26, 26, 1}, {0, 1, 26, 26, 26, 26, 26, 26}, {0, 2, 17, 0, 0, 0, 0, 0}, {1, 0, 1, 26, 0, 0, 0, 0},
            {2, 0, 26, 1, 26, 1, 26, 0}};
        for (int[] name : want) {
            for (int k = 0; k < 6; k++) {
                Kit.due("kind " + name[0] + " " + name[1] + " letter " + k, x.letter(name[0], name[1], k), name[k + 2]);
            }
        }
    }

    @Says(at = "Promise 7", text = "NONE when there is none such.")
    static void noSuchLetter() {
        MendedThings x = Kit.of(A + M + "trial r is all;");
        for (int kind = 0; kind < 3; kind++) {
            Kit.due("letter 6", x.letter(kind, 0, 6), NONE);
            Kit.due("which 1", x.letter(kind, 1, 0), NONE);
            for (int odd : ODD) {
                Kit.due("letter " + odd, x.letter(kind, 0, odd), NONE);
                Kit.due("which " + odd, x.letter(kind, odd, 0), NONE);
            }
        }
        Kit.due("kind 3", x.letter(3, 0, 0), NONE);
        for (int odd : ODD) {
            Kit.due("kind " + odd, x.letter(odd, 0, 0), NONE);
        }
        x = Kit.of(Kit.things(8));
        Kit.due("the eighth", x.letter(0, 7, 0), 8);
        Kit.due("no ninth", x.letter(0, 8, 0), NONE);
        Kit.due("no mender", x.letter(1, 0, 0), NONE);
        Kit.due("no trial", x.letter(2, 0, 0), NONE);
    }

    @Says(at = "Promise 8", text = "Of a THING: 0 worth, 1 use, 2 frail, 3 what it is (0 .. 2), 4 how often it broke, 5 was mended, 6 glue, 7 whether it is"
        + " FORGED, 8 whether it STANDS.")
    static void thingsAtTheEdges() {
        String edges = Kit.thing("a", 99, 98, 9) + Kit.thing("b", 0, 0, 0) + M;
        MendedThings x = Kit.of(edges);
        Kit.on(x, Kit.sealed(0, 0, 2, 99, 98, 97, 1, 1, 0, 0, 0, 0));
        int[][] want = {{99, 98, 9, 2, 99, 98, 97, 1, 1}, {0, 0, 0, 1, 0, 0, 0, 0, 0}};
        for (int t = 0; t < 2; t++) {
            for (int what = 0; what <= 8; what++) {
                Kit.due("thing " + t + " " + what, x.thing(t, what), want[t][what]);
            }
        }
        x = Kit.of(edges);
        for (int what = 3; what <= 8; what++) {
            Kit.due("at first " + what, x.thing(0, what), 0);
        }
    }

    @Says(at = "Promise 8", text = "NONE when there is none such, or for others.")
    static void noSuchThing() {
        MendedThings x = Kit.of(Kit.things(8));
        Kit.due("the eighth", x.thing(7, 0), 1);
        for (int what = 0; what <= 8; what++) {
            Kit.due("no ninth, " + what, x.thing(8, what), NONE);
            Kit.due("nor one below 0, " + what, x.thing(-1, what), NONE);
            Kit.due("none of none, " + what, new MendedThings().thing(0, what), NONE);
        }
        Kit.due("what 9", x.thing(0, 9), NONE);
        for (int odd : ODD) {
            Kit.due("thing " + odd, x.thing(odd, 0), NONE);
            Kit.due("what " + odd, x.thing(0, odd), NONE);
        }
        Kit.due("fewer than there were", Kit.island(x, Kit.things(2)), 2);
        Kit.due("the second", x.thing(1, 0), 1);
        Kit.due("no third", x.thing(2, 0), NONE);
    }

    @Says(at = "Promise 9", text = "NONE when there is none such, or for others.")
    static void noSuchMender() {
        MendedThings x = Kit.of(Kit.mender("a", 0, 1) + Kit.mender("b", 1, 2) + Kit.mender("c", 2, 3) + Kit.mender("d", 3, 4));
        Kit.due("the fourth", x.mender(3, 0) * 10 + x.mender(3, 1), 34);
        Kit.due("no fifth", x.mender(4, 0), NONE);
        Kit.due("no fifth", x.mender(4, 1), NONE);
        Kit.due("what 2", x.mender(0, 2), NONE);
        for (int odd : ODD) {
            Kit.due("mender " + odd, x.mender(odd, 0), NONE);
            Kit.due("what " + odd, x.mender(0, odd), NONE);
        }
        Kit.due("without menders", Kit.of(A).mender(0, 0), NONE);
    }

    @Says(at = "Promise 10", text = "NONE when there are none such.")
    static void takesOfNone() {
        MendedThings x = Kit.of(Kit.things(2) + M);
        Kit.due("of what is whole", x.takes(1, 0), 4);
        Kit.due("no third thing", x.takes(2, 0), NONE);
        Kit.due("no second mender", x.takes(0, 1), NONE);
        for (int odd : ODD) {
            Kit.due("thing " + odd, x.takes(odd, 0), NONE);
            Kit.due("mender " + odd, x.takes(0, odd), NONE);
        }
        Kit.due("without menders", Kit.of(A).takes(0, 0), NONE);
        Kit.due("without things", Kit.of(M).takes(0, 0), NONE);
    }

    @Says(at = "Promise 10", text = "HOURS of a THING by a MENDER now")
    static void takesNow() {
        MendedThings x = Kit.of(A + M + "takes 49 * breaks + day - 1;");
        Kit.due("below 1", x.takes(0, 0), 1);
        x.days(1);
        Kit.due("0 is 1", x.takes(0, 0), 1);
        x.days(2);
        Kit.due("2", x.takes(0, 0), 2);
        x.strike(0);
        Kit.due("51", x.takes(0, 0), 51);
        x.mend(0, 0);
        x.strike(0);
        Kit.due("100 is 99", x.takes(0, 0), 99);
    }

    @Says(at = "Promise 11", text = "How fine a THING would be, mended by a MENDER now; NONE when there are none such.")
    static void fineOfNone() {
        MendedThings x = Kit.of(Kit.things(2) + M + "fine skill - 8 + 93 * breaks;");
        Kit.due("below 0", x.fine(0, 0), 0);
        x.strike(0);
        Kit.due("92", x.fine(0, 0), 92);
        x.mend(0, 0);
        x.strike(0);
        Kit.due("above 99", x.fine(0, 0), 99);
        Kit.due("of what is whole", x.fine(1, 0), 0);
        Kit.due("no third thing", x.fine(2, 0), NONE);
        Kit.due("no second mender", x.fine(0, 1), NONE);
        for (int odd : ODD) {
            Kit.due("thing " + odd, x.fine(odd, 0), NONE);
            Kit.due("mender " + odd, x.fine(0, odd), NONE);
        }
        Kit.due("without menders", Kit.of(A).fine(0, 0), NONE);
    }

    @Says(at = "Promise 12", text = "Whether a TRIAL holds for a THING now: 1 or 0; NONE when there are none such.")
    static void trialOfNone() {
        MendedThings x = Kit.of(Kit.things(8) + "trial v is all;"
            + "trial w is not all;trial x is day > 0;trial y is 0 - 5 < 0;trial z is breaks = 1;");
        x.strike(7);
        int[] want = {1, 0, 0, 1, 1};
        for (int r = 0; r < 5; r++) {
            Kit.due("trial " + r, x.trial(r, 7), want[r]);
        }
        Kit.due("of another", x.trial(4, 6), 0);
        x.days(1);
        Kit.due("now", x.trial(2, 0), 1);
        Kit.due("no sixth trial", x.trial(5, 0), NONE);
        Kit.due("no ninth thing", x.trial(0, 8), NONE);
        for (int odd : ODD) {
            Kit.due("trial " + odd, x.trial(odd, 0), NONE);
            Kit.due("thing " + odd, x.trial(0, odd), NONE);
        }
        Kit.due("without trials", Kit.of(A).trial(0, 0), NONE);
        Kit.due("without things", Kit.of("trial r is all;").trial(0, 0), NONE);
    }

    @Says(at = "Promise 13", text = "Of what is told as KEPT, the k-th from the oldest on")
    static void keptFromTheOldest() {
        MendedThings x = Kit.of(Kit.things(8) + M);
        for (int t = 0; t < 8; t++) {
            x.strike(7 - t);
        }
        for (int k = 0; k < 8; k++) {
            Kit.due("kept " + k, x.kept(k, 1), 7 - k);
        }
        for (int k = 0; k < 43; k++) {
            x.mend(7, 0);
            x.strike(7);
        }
        // 94 in all: the last 50 are of the last one alone, mended, broken, ..
        for (int k = 0; k < 50; k++) {
            Kit.due("kept " + k, x.kept(k, 1) * 10 + x.kept(k, 2), 71 - k % 2);
        }
    }

    @Says(at = "Promise 13", text = "NONE when there is none such, or for others.")
    static void keptOfNone() {
        MendedThings x = Kit.of(A);
        Kit.due("of none", x.kept(0, 0), NONE);
        x.strike(0);
        Kit.due("the first", x.kept(0, 0), 0);
        Kit.due("no second", x.kept(1, 0), NONE);
        Kit.due("what 3", x.kept(0, 3), NONE);
        for (int odd : ODD) {
            Kit.due("kept " + odd, x.kept(odd, 0), NONE);
            Kit.due("what " + odd, x.kept(0, odd), NONE);
        }
        x.undo();
        Kit.due("undone", x.kept(0, 0), NONE);
    }

    // ---- promise 14 to 22

    @Says(at = "Promise 14", text = "Behind n DAYS AHEAD (0 .. 60): 0 what STANDS, as bits, 1 what is BROKEN, as bits, 2 USE that STANDS, 3 how often"
        + " THINGS broke in them.")
    static void laterDays() {
        MendedThings x = Kit.of(Kit.things(8) + Kit.mender("m", 1, 24) + "takes 1;falls all;");
        Kit.due("0 days, what stands", x.later(0, 0), 0);
        Kit.due("0 days, how often", x.later(0, 3), 0);
        Kit.due("1 day, what stands", x.later(1, 0), 255);
        Kit.due("1 day, what is broken", x.later(1, 1), 0);
        Kit.due("1 day, use", x.later(1, 2), 8);
        Kit.due("1 day, how often", x.later(1, 3), 8);
        Kit.due("60 days, how often", x.later(60, 3), 480);
        x = Kit.of(Kit.things(8) + "falls day = 59;");
        Kit.due("59 days", x.later(59, 1), 0);
        Kit.due("60 days", x.later(60, 1), 255);
        x.strike(3);
        Kit.due("0 days, now", x.later(0, 1), 8);
        String ahead = Kit.all(x);
        x.later(60, 0);
        Kit.dueAll("later", x, ahead);
    }

    @Says(at = "Promise 14", text = "NONE when n can't be, or for others.")
    static void laterOfNone() {
        MendedThings x = Kit.of(A);
        for (int what = 0; what < 4; what++) {
            Kit.due("61 days", x.later(61, what), NONE);
            Kit.due("60 days", x.later(60, what), 0);
            for (int odd : ODD) {
                Kit.due("days " + odd, x.later(odd, what), NONE);
            }
        }
        Kit.due("what 4", x.later(0, 4), NONE);
        for (int odd : ODD) {
            Kit.due("what " + odd, x.later(0, odd), NONE);
        }
        Kit.toDay(x, 999);
        Kit.due("no day at 999", x.later(0, 0), 0);
        Kit.due("a day at 999", x.later(1, 0), NONE);
    }

    @Says(at = "Promise 15", text = "In which DAY AHEAD (1 and on) a THING breaks first")
    static void breaksFirst() {
        MendedThings x = Kit.of(Kit.thing("a", 0, 1, 1) + Kit.thing("b", 1, 1, 1) + Kit.thing("c", 59, 1, 1) + M + "falls not day < worth;");
        Kit.due("in the first", x.breaks(0), 1);
        Kit.due("in the second", x.breaks(1), 2);
        Kit.due("in the 60th", x.breaks(2), 60);
        // one that is broken breaks when it was mended
        x = Kit.of(Kit.thing("a", 1, 1, 1) + M + "falls all;");
        x.strike(0);
        Kit.due("mended in the first", x.breaks(0), 2);
    }

    @Says(at = "Promise 15", text = "NONE when it does not, or there is none such.")
    static void breaksNever() {
        MendedThings x = Kit.of(Kit.thing("a", 60, 1, 1) + Kit.thing("b", 1, 1, 1) + "falls day = worth;");
        Kit.due("in the 61st", x.breaks(0), NONE);
        Kit.due("b", x.breaks(1), 2);
        x.strike(1);
        Kit.due("b is broken, none mends", x.breaks(1), NONE);
        Kit.due("no third", x.breaks(2), NONE);
        for (int odd : ODD) {
            Kit.due("thing " + odd, x.breaks(odd), NONE);
        }
    }

    @Says(at = "Promise 16", text = "A HOUSE of so much USE (0 .. 999): the set as bits (what 0), the worth of those struck (1).")
    static void houses() {
        StringBuilder text = new StringBuilder(M);
        for (int t = 0; t < 8; t++) {
            text.append(Kit.thing("t" + (char) ('a' + t), 99, 99, 0));
        }
        MendedThings x = Kit.of(text.toString());
        Kit.due("0", x.house(0, 0), 0);
        Kit.due("0, worth", x.house(0, 1), 0);
        Kit.due("1", x.house(1, 0), 1);
        Kit.due("693", x.house(693, 0), 127);
        Kit.due("694", x.house(694, 0), 255);
        Kit.due("792", x.house(792, 0), 255);
        Kit.due("792, worth", x.house(792, 1), 792);
    }

    @Says(at = "Promise 16", text = "NONE when there is none, without MENDERS, n can't be, or for others.")
    static void noHouse() {
        MendedThings x = Kit.of(A + M);
        for (int what = 0; what < 2; what++) {
            Kit.due("1", x.house(1, what), 1);
            Kit.due("2", x.house(2, what), NONE);
            Kit.due("999", x.house(999, what), NONE);
            Kit.due("1000", x.house(1000, what), NONE);
            for (int odd : ODD) {
                Kit.due("use " + odd, x.house(odd, what), NONE);
            }
            Kit.due("without menders", Kit.of(A).house(0, what), NONE);
            Kit.due("without things", Kit.of(M).house(0, what), 0);
            Kit.due("without things", Kit.of(M).house(1, what), NONE);
        }
        Kit.due("what 2", x.house(0, 2), NONE);
        for (int odd : ODD) {
            Kit.due("what " + odd, x.house(0, odd), NONE);
        }
        MendedThings y = Kit.of(A + "stands all;");
        y.forge(0);
        Kit.due("without menders, though it stands", y.house(1, 0), NONE);
    }

    @Says(at = "Promise 17", text = "NOTHING when it is not BROKEN, or there are none such.")
    static void noGain() {
        MendedThings x = Kit.of(Kit.things(2) + M);
        Kit.due("whole", x.gain(0, 0), NOTHING);
        x.strike(0);
        Kit.due("broken", x.gain(0, 0), 1);
        Kit.due("no second mender", x.gain(0, 1), NOTHING);
        Kit.due("no third thing", x.gain(2, 0), NOTHING);
        for (int odd : ODD) {
            Kit.due("thing " + odd, x.gain(odd, 0), NOTHING);
            Kit.due("mender " + odd, x.gain(0, odd), NOTHING);
        }
        x.mend(0, 0);
        Kit.due("mended", x.gain(0, 0), NOTHING);
        x.forge(1);
        Kit.due("forged", x.gain(1, 0), NOTHING);
    }

    @Says(at = "Promise 18", text = "A ROW: use times HOURS together (k NONE), the THING at its k-th place.")
    static void rows() {
        MendedThings x = Kit.of(Kit.thing("a", 1, 99, 1) + Kit.thing("b", 1, 99, 1) + Kit.thing("c", 1, 99, 1) + Kit.thing("d", 1, 99, 1)
            + Kit.thing("e", 1, 99, 1) + Kit.thing("f", 1, 99, 1) + M + "takes 99;");
        for (int t = 0; t < 6; t++) {
            x.strike(t);
        }
        Kit.due("as much as can be", x.row(NONE), 99 * 99 * 21);
        for (int k = 0; k < 6; k++) {
            Kit.due("place " + k, x.row(k), k);
        }
        String ahead = Kit.all(x);
        x.row(NONE);
        Kit.dueAll("row", x, ahead);
    }

    @Says(at = "Promise 18", text = "NONE when more than 6 are BROKEN, without MENDERS, or there is none such.")
    static void noRow() {
        MendedThings x = Kit.of(Kit.things(7) + M);
        Kit.due("no place in none", x.row(0), NONE);
        for (int t = 0; t < 6; t++) {
            x.strike(t);
        }
        Kit.due("the sixth", x.row(5), 5);
        Kit.due("no seventh", x.row(6), NONE);
        for (int odd : new int[] {-2, -3, Integer.MIN_VALUE, Integer.MAX_VALUE}) {
            Kit.due("place " + odd, x.row(odd), NONE);
        }
        x.strike(6);
        Kit.due("seven", x.row(NONE), NONE);
        Kit.due("seven", x.row(0), NONE);
        x = Kit.of(A);
        Kit.due("without menders, none broken", x.row(NONE), NONE);
        x.strike(0);
        Kit.due("without menders", x.row(NONE), NONE);
        Kit.due("without menders", x.row(0), NONE);
    }

    @Says(at = "Promise 19", text = "TRIALS that PART those that are FORGED, as bits (0: there is nothing to part); NONE when none do.")
    static void parts() {
        MendedThings x = Kit.of(Kit.things(8) + M + "trial v is all;trial w is all;trial x is all;trial y is all;trial z is glue = 50;");
        Kit.due("nothing is forged", x.parts(), 0);
        x.forge(0);
        Kit.due("nothing is mended beside", x.parts(), 0);
        x.strike(7);
        Kit.due("it is broken", x.parts(), 0);
        x.mend(7, 0);
        Kit.due("the fifth", x.parts(), 16);
        x.strike(0);
        Kit.due("nothing is forged any more", x.parts(), 0);
        x = Kit.of(Kit.things(2) + M);
        Kit.due("no trials, nothing to part", x.parts(), 0);
        x.forge(0);
        x.strike(1);
        x.mend(1, 0);
        Kit.due("no trials", x.parts(), NONE);
        x = Kit.of(Kit.things(2) + M + "trial p is mends > 1;fine 50;");
        x.forge(0);
        x.strike(1);
        x.mend(1, 0);
        Kit.due("none do", x.parts(), NONE);
        x.strike(1);
        x.mend(1, 0);
        Kit.due("now it does", x.parts(), 1);
    }

    @Says(at = "Promise 20", text = "A LAW compared (0 .. 2): USE that STANDS (what 0), WRONGED, as bits (1). NONE when there is none such, or for others.")
    static void lawsOfNone() {
        MendedThings x = Kit.of(A + M);
        for (int law = 0; law < 3; law++) {
            Kit.due("use by law " + law, x.lawed(law, 0), 0);
            Kit.due("wronged by law " + law, x.lawed(law, 1), 0);
            Kit.due("what 2", x.lawed(law, 2), NONE);
            for (int odd : ODD) {
                Kit.due("what " + odd, x.lawed(law, odd), NONE);
            }
        }
        for (int what = 0; what < 2; what++) {
            Kit.due("law 3", x.lawed(3, what), NONE);
            for (int odd : ODD) {
                Kit.due("law " + odd, x.lawed(odd, what), NONE);
            }
        }
        x.strike(0);
        x.mend(0, 0);
        Kit.due("mended once, by law 1", x.lawed(1, 0), 1);
        Kit.due("mended once, by law 2", x.lawed(2, 0), 0);
        x.strike(0);
        x.mend(0, 0);
        Kit.due("mended twice, by law 2", x.lawed(2, 0), 1);
    }

    @Says(at = "Promise 21", text = "The tape (it goes) tells what is SEEN of a THING, 1 to 20 bytes, DAYS AHEAD in which it broke (1 .. 30, each above the"
        + " one ahead): how FRAIL it can be, as bits")
    static void seen() {
        int[] twenty = new int[20];
        int[] lastTwenty = new int[20];
        for (int k = 0; k < 20; k++) {
            twenty[k] = k + 1;
            lastTwenty[k] = k + 11;
        }
        MendedThings x = Kit.of(A + M + "falls all;");
        Kit.due("one byte", Kit.see(x, 0, 1), 1023);
        Kit.due("the tape goes", x.end(1), false);
        Kit.due("twenty bytes", Kit.see(x, 0, twenty), 1023);
        Kit.due("none of the first ten", Kit.see(x, 0, lastTwenty), 0);
        x = Kit.of(A + M + "falls day > 9;");
        Kit.due("11 .. 30", Kit.see(x, 0, lastTwenty), 1023);
        Kit.due("the tape goes", x.end(1), false);
        x = Kit.of(A + M + "falls day = 29 and frail = 9 or day = 0 and frail = 0;");
        Kit.due("30", Kit.see(x, 0, 30), 1 << 9);
        Kit.due("1", Kit.see(x, 0, 1), 1);
        Kit.due("none can be", Kit.see(x, 0, 1, 30), 0);
        Kit.due("none refused", x.status(1), 0);
        String ahead = Kit.all(x);
        Kit.see(x, 0, 30);
        Kit.dueAll("see", x, ahead);
    }

    @Says(at = "Promise 21", text = "NONE, refused (1), when it is none such, beyond DAY 999, or there is no such THING.")
    static void seeRefused() {
        MendedThings x = Kit.of(A + M + "falls all;");
        int[] tooMany = new int[21];
        for (int k = 0; k < 21; k++) {
            tooMany[k] = k + 1;
        }
        int[][] none = {{}, {0}, {31}, {255}, {1, 1}, {2, 1}, {0, 1}, {1, 31}, {30, 30}, {1, 2, 3, 3}, tooMany};
        String ahead = Kit.all(x);
        for (int k = 0; k < none.length; k++) {
            Kit.due("see " + Arrays.toString(none[k]), Kit.see(x, 0, none[k]), NONE);
            Kit.due("refused", x.status(1), k + 1);
            Kit.due("the tape goes", x.end(1), false);
            Kit.dueAll("see", x, ahead);
        }
        int refused = none.length;
        for (int thing : new int[] {1, 8, -1, Integer.MIN_VALUE, Integer.MAX_VALUE}) {
            Kit.due("thing " + thing, Kit.see(x, thing, 1), NONE);
            Kit.due("refused", x.status(1), ++refused);
        }
        for (int day : new int[] {968, 969, 970, 998, 999}) {
            Kit.toDay(x, day);
            int most = Math.min(30, 999 - day);
            if (most > 0) {
                int[] each = new int[Math.min(20, most)];
                Arrays.setAll(each, k -> most - each.length + 1 + k);
                Kit.due("DAY " + day + ", the last is " + most, Kit.see(x, 0, each), most <= 20 ? 1023 : 0);
                Kit.due("not refused", x.status(1), refused);
            }
            if (most < 30) {
                Kit.due("DAY " + day + ", one beyond", Kit.see(x, 0, most + 1), NONE);
                Kit.due("refused", x.status(1), ++refused);
            }
        }
    }

    @Says(at = "Promise 22", text = "TELLING of a THING, all of its numbers being left: the DAY (what 0), how many are left at the most (1).")
    static void tells() {
        MendedThings x = Kit.of(A + Kit.thing("b", 2, 1, 1) + M + "falls day = 2 * worth and frail > 4;");
        Kit.due("of a, the third", x.tells(0, 0), 3);
        Kit.due("of a, 5 left", x.tells(0, 1), 5);
        Kit.due("of b, the fifth", x.tells(1, 0), 5);
        String ahead = Kit.all(x);
        x.tells(0, 0);
        Kit.dueAll("tells", x, ahead);
        x = Kit.of(A);
        Kit.due("nothing tells", x.tells(0, 0), 1);
        Kit.due("ten left", x.tells(0, 1), 10);
    }

    @Says(at = "Promise 22", text = "NONE when there is none such, beyond DAY 999 (30 of them), or for others.")
    static void tellsNone() {
        MendedThings x = Kit.of(A);
        for (int what = 0; what < 2; what++) {
            Kit.due("no second", x.tells(1, what), NONE);
            for (int odd : ODD) {
                Kit.due("thing " + odd, x.tells(odd, what), NONE);
            }
        }
        Kit.due("what 2", x.tells(0, 2), NONE);
        for (int odd : ODD) {
            Kit.due("what " + odd, x.tells(0, odd), NONE);
        }
        Kit.toDay(x, 969);
        Kit.due("30 to 999", x.tells(0, 0), 1);
        Kit.due("30 to 999", x.tells(0, 1), 10);
        Kit.toDay(x, 970);
        Kit.due("one beyond", x.tells(0, 0), NONE);
        Kit.due("one beyond", x.tells(0, 1), NONE);
        Kit.toDay(x, 999);
        Kit.due("all beyond", x.tells(0, 0), NONE);
        Kit.due("it is not counted as refused", x.status(1), 0);
    }
}
