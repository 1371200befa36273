import java.util.Arrays;

/** Sentences on boundary cases of the acts, questions, images and refusals: the promises 23 to 34. */
final class SentencesOfActs {
    private static final int NONE = MendedThings.NONE;
    private static final long NOTHING = MendedThings.NOTHING;
    private static final int[] ODD = {-1, -2, Integer.MIN_VALUE, Integer.MAX_VALUE};
    private static final String A = Kit.thing("a", 1, 1, 1);
    private static final String M = Kit.mender("m", 7, 4);

    private SentencesOfActs() {
    }

    // ---- promise 23 to 29

    @Says(at = "Promise 23", text = "true; false, refused (2), when it is BROKEN, or there is none such.")
    static void strikeRefused() {
        MendedThings x = Kit.of(Kit.things(2));
        Kit.due("whole", x.strike(0), true);
        String ahead = Kit.all(x);
        int refused = 0;
        for (int thing : new int[] {0, 2, 8, -1, Integer.MIN_VALUE, Integer.MAX_VALUE}) {
            Kit.due("strike " + thing, x.strike(thing), false);
            Kit.due("refused", x.status(2), ++refused);
            Kit.dueAll("strike " + thing, x, ahead);
        }
        Kit.due("the last one", x.strike(1), true);
        Kit.due("none of none", new MendedThings().strike(0), false);
    }

    @Says(at = "Promise 24", text = "how fine; NONE, refused (2), when it is not BROKEN, or there are none such.")
    static void mendRefused() {
        MendedThings x = Kit.of(Kit.things(3) + M + "fine 0-5;");
        x.strike(0);
        x.forge(1);
        String ahead = Kit.all(x);
        int refused = 0;
        int[][] none = {{1, 0}, {2, 0}, {0, 1}, {0, 4}, {3, 0}, {8, 0}, {-1, 0}, {0, -1}, {Integer.MIN_VALUE, 0}, {Integer.MAX_VALUE, 0},
            {0, Integer.MIN_VALUE}, {0, Integer.MAX_VALUE}};
        for (int[] pair : none) {
            Kit.due("mend " + Arrays.toString(pair), x.mend(pair[0], pair[1]), NONE);
            Kit.due("refused", x.status(2), ++refused);
            Kit.dueAll("mend", x, ahead);
        }
        Kit.due("broken, as fine as 0", x.mend(0, 0), 0);
        Kit.due("mended", x.mend(0, 0), NONE);
        x = Kit.of(A);
        x.strike(0);
        Kit.due("without menders", x.mend(0, 0), NONE);
    }

    @Says(at = "Promise 25", text = "true; false, refused (2), when it is not WHOLE, or there is none such.")
    static void forgeRefused() {
        MendedThings x = Kit.of(Kit.things(4) + M);
        Kit.due("whole", x.forge(0), true);
        x.strike(1);
        x.strike(2);
        x.mend(2, 0);
        String ahead = Kit.all(x);
        int refused = 0;
        for (int thing : new int[] {0, 1, 2, 4, 8, -1, Integer.MIN_VALUE, Integer.MAX_VALUE}) {
            Kit.due("forge " + thing, x.forge(thing), false);
            Kit.due("refused", x.status(2), ++refused);
            Kit.dueAll("forge " + thing, x, ahead);
        }
        Kit.due("the last one", x.forge(3), true);
    }

    @Says(at = "Promise 26", text = "n DAYS (1 .. 100): how often THINGS broke in them")
    static void daysGoBy() {
        MendedThings x = Kit.of(Kit.things(8) + Kit.mender("m", 1, 24) + "takes 1;falls all;");
        x.strike(0);
        Kit.due("a strike is not in them", x.days(1), 7);
        Kit.due("one", x.days(1), 8);
        Kit.due("DAY 2", x.has(3), 2);
        Kit.due("a hundred", x.days(100), 800);
        Kit.due("DAY 102", x.has(3), 102);
        Kit.due("an ACT each", x.has(10), 4);
    }

    @Says(at = "Promise 26", text = "NONE, refused (3), when it can't be.")
    static void daysRefused() {
        MendedThings x = Kit.of(A + M + "falls all;");
        int refused = 0;
        String ahead = Kit.all(x);
        for (int n : new int[] {0, 101, -1, -100, Integer.MIN_VALUE, Integer.MAX_VALUE}) {
            Kit.due("days " + n, x.days(n), NONE);
            Kit.due("refused", x.status(3), ++refused);
            Kit.dueAll("days " + n, x, ahead);
        }
        Kit.toDay(x, 899);
        Kit.due("100 to DAY 999", x.days(100), 100);
        Kit.due("DAY 999", x.has(3), 999);
        for (int day : new int[] {900, 998, 999}) {
            Kit.toDay(x, day);
            ahead = Kit.all(x);
            Kit.due("DAY " + day + ", one too many", x.days(1000 - day), NONE);
            Kit.due("refused", x.status(3), ++refused);
            Kit.dueAll("days", x, ahead);
        }
    }

    @Says(at = "Promise 27", text = "n DAYS by the seed (1 .. 100), one ACT: how many cats")
    static void chanceOfDays() {
        MendedThings x = Kit.of(Kit.things(8) + Kit.mender("m", 1, 24) + "takes 1;cat 100;");
        Kit.due("one", x.chance(1), 1);
        Kit.due("one ACT", x.has(10), 1);
        Kit.due("a hundred", x.chance(100), 100);
        Kit.due("one ACT", x.has(10), 2);
        Kit.due("DAY 101", x.has(3), 101);
        Kit.due("undone at once", x.undo(), true);
        Kit.due("DAY 1", x.has(3), 1);
        Kit.due("cat 0", Kit.of(A + "cat 0;").chance(100), 0);
        Kit.due("falling is not counted", Kit.of(A + M + "falls all;").chance(100), 0);
        Kit.due("without things", Kit.of("cat 100;").chance(100), 0);
    }

    @Says(at = "Promise 27", text = "NONE, refused (3), when it can't be.")
    static void chanceRefused() {
        String text = Kit.things(3) + M + "falls all;cat 50;";
        MendedThings x = Kit.of(text);
        int refused = 0;
        String ahead = Kit.all(x);
        for (int n : new int[] {0, 101, -1, -100, Integer.MIN_VALUE, Integer.MAX_VALUE}) {
            Kit.due("chance " + n, x.chance(n), NONE);
            Kit.due("refused", x.status(3), ++refused);
            Kit.dueAll("chance " + n, x, ahead);
        }
        for (int day : new int[] {900, 998, 999}) {
            Kit.toDay(x, day);
            ahead = Kit.all(x);
            Kit.due("DAY " + day + ", one too many", x.chance(1000 - day), NONE);
            Kit.due("refused", x.status(3), ++refused);
            Kit.dueAll("chance", x, ahead);
        }
        // no DRAW was made by what was refused
        Kit.toDay(x, 899);
        MendedThings y = Kit.of(text);
        Kit.toDay(y, 899);
        for (int k = 0; k < 20; k++) {
            Kit.due("the seed stayed", x.chance(1), y.chance(1));
        }
        for (int thing = 0; thing < 3; thing++) {
            Kit.due("what the cats met", x.thing(thing, 4), y.thing(thing, 4));
        }
        Kit.due("80 to DAY 999", x.chance(80) >= 0, true);
        Kit.due("DAY 999", x.has(3), 999);
    }

    @Says(at = "Promise 28", text = "The latest ACT is undone (the seed stays): true")
    static void undoOfEach() {
        String text = Kit.things(3) + M + "cat 50;falls day = 2;";
        MendedThings x = Kit.of(text);
        String[] ahead = new String[6];
        ahead[0] = Kit.all(x);
        x.strike(0);
        ahead[1] = Kit.all(x);
        x.mend(0, 0);
        ahead[2] = Kit.all(x);
        x.forge(1);
        ahead[3] = Kit.all(x);
        x.days(4);
        ahead[4] = Kit.all(x);
        x.chance(10);
        for (int k = 4; k >= 0; k--) {
            Kit.due("undo", x.undo(), true);
            Kit.dueAll("as ahead of ACT " + k, x, ahead[k]);
        }
        keptIsUndone();
        MendedThings y = Kit.of(text);
        y.chance(10);
        y.undo();
        MendedThings z = Kit.of(text);
        z.chance(10);
        Kit.island(z, text);
        for (int k = 0; k < 12; k++) {
            int cats = z.chance(1);
            Kit.due("the seed stays", x.chance(1), cats);
            Kit.due("the seed stays", y.chance(1), cats);
        }
    }

    /** What an act pushed out of the last 50 is told again behind undo(). */
    private static void keptIsUndone() {
        MendedThings x = Kit.of(A + Kit.thing("b", 1, 1, 2) + Kit.mender("m", 1, 24) + Kit.mender("n", 1, 24) + "takes 24;falls day > 0;");
        x.strike(0);
        x.mend(0, 1);
        x.days(1);
        String ahead = Kit.all(x);
        x.days(100);
        Kit.due("50", x.has(9), 50);
        x.undo();
        Kit.dueAll("as ahead of 100 days", x, ahead);
    }

    @Says(at = "Promise 28", text = "false, refused (4), when none can be.")
    static void undoRefused() {
        MendedThings x = Kit.of(A + M);
        Kit.due("no ACT", x.undo(), false);
        x.strike(0);
        Kit.due("one", x.undo(), true);
        Kit.due("no more", x.undo(), false);
        x.strike(1);
        x.mend(0, 0);
        x.days(0);
        x.chance(101);
        x.later(5, 0);
        x.seed(4);
        Kit.due("what was refused or only asked is no ACT", x.undo(), false);
        x.strike(0);
        Kit.island(x, A);
        Kit.due("behind an island()", x.undo(), false);
        x.strike(0);
        Kit.toDay(x, 5);
        Kit.due("behind an on()", x.undo(), false);
        for (int k = 0; k < 25; k++) {
            x.days(1);
        }
        for (int k = 0; k < 20; k++) {
            Kit.due("20 of 25", x.undo(), true);
        }
        String ahead = Kit.all(x);
        Kit.due("the 21st", x.undo(), false);
        Kit.dueAll("undo", x, ahead);
        Kit.due("refused", x.status(4), 6);
    }

    @Says(at = "Promise 29", text = "The seed: true; false, refused (5), when it is below 0. (It is 1 at first.)")
    static void seeds() {
        String text = Kit.things(8) + "cat 50;";
        MendedThings x = Kit.of(text);
        MendedThings y = Kit.of(text);
        Kit.due("1", y.seed(1), true);
        Kit.due("-1", x.seed(-1), false);
        Kit.due("the least", x.seed(Integer.MIN_VALUE), false);
        Kit.due("refused", x.status(5), 2);
        for (int k = 0; k < 20; k++) {
            Kit.due("1 at first", x.chance(1), y.chance(1));
        }
        Kit.due("what they met", Kit.all(x).equals(Kit.all(y)), true);
        Kit.due("0", x.seed(0), true);
        // 12345 / 64 is 192
        Kit.due("from 0: 92 is not below 50", x.chance(1), 0);
        Kit.due("the greatest", x.seed(Integer.MAX_VALUE), true);
        Kit.due("refused", x.status(5), 2);
        int acts = x.has(10);
        x.seed(9);
        Kit.due("it is no ACT", x.has(10), acts);
    }

    // ---- promise 30 to 34

    @Says(at = "Promise 30", text = "The tape (it goes) is a QUESTION: its answer; NONE of first, last, when its TEST holds for none")
    static void askNone() {
        MendedThings x = Kit.of(Kit.things(8));
        Kit.due("first of none", Kit.ask(x, "first number > 7"), NONE);
        Kit.due("last of none", Kit.ask(x, "last number < 0"), NONE);
        Kit.due("without a fault", x.fault(0), 0);
        Kit.due("often of none", Kit.ask(x, "often number > 7"), 0);
        Kit.due("the tape goes", x.end(1), false);
        Kit.due("first", Kit.ask(x, "first number > 6"), 7);
        Kit.due("last", Kit.ask(x, "last number < 1"), 0);
        MendedThings none = new MendedThings();
        Kit.due("without things", Kit.ask(none, "first all"), NONE);
        Kit.due("without things", Kit.ask(none, "last all"), NONE);
        Kit.due("without things", Kit.ask(none, "often all"), 0);
        for (int k = 0; k < 3; k++) {
            Kit.due("of 1600 bytes", Kit.ask(x, "least " + "1+".repeat(796) + "11"), 807);
        }
        Kit.due("of 1600 bytes, a word at the end", Kit.ask(x, " ".repeat(1591) + "often all"), 8);
    }

    @Says(at = "Promise 30", text = "NOTHING with a FAULT.")
    static void askNothing() {
        MendedThings x = Kit.of(A + M);
        x.strike(0);
        String ahead = Kit.all(x);
        for (String faulty : new String[] {"", "x", "first", "total 5 6", "total 12345", "total (((((((1", "most 5;", "often worth"}) {
            Kit.due(faulty, Kit.ask(x, faulty), NOTHING);
            Kit.due(faulty + " has a fault", x.fault(0) > 0, true);
            Kit.due("the tape goes", x.end(1), false);
            Kit.dueAll(faulty, x, ahead);
        }
        Kit.due("it is not counted as refused", x.status(1), 0);
        Kit.due("a number below 0 is one", Kit.ask(x, "total 0-1"), -1);
    }

    @Says(at = "Promise 31", text = "AN IMAGE is written: how many bytes.")
    static void images() {
        Kit.due("without an island", new MendedThings().image(), 3);
        for (int things = 0; things <= 8; things++) {
            MendedThings x = Kit.of(Kit.things(things));
            Kit.due(things + " things", x.image(), 3 + 5 * things);
            Kit.due("again", x.image(), 3 + 5 * things);
            Kit.due("it is no ACT", x.has(10), 0);
        }
    }

    @Says(at = "Promise 32", text = "Byte k of the latest image(); NONE when there is none such.")
    static void octets() {
        MendedThings x = Kit.of(Kit.things(8));
        Kit.due("ahead of any", x.octet(0), NONE);
        x.days(1);
        x.image();
        Kit.due("the DAY", x.octet(1), 1);
        Kit.due("the last", x.octet(42) >= 0, true);
        Kit.due("behind it", x.octet(43), NONE);
        for (int odd : ODD) {
            Kit.due("octet " + odd, x.octet(odd), NONE);
        }
        x.days(1);
        Kit.due("of the latest image(), not of now", x.octet(1), 1);
        x.image();
        Kit.due("now it is", x.octet(1), 2);
        // a shorter one leaves nothing of the longer
        x.island();
        x.image();
        Kit.due("three bytes", x.octet(2), 13);
        Kit.due("no fourth", x.octet(3), NONE);
    }

    @Says(at = "Promise 33", text = "true, all is as it tells, nothing is KEPT or can be undone")
    static void onAnImage() {
        MendedThings x = Kit.of(Kit.things(3) + M);
        x.strike(0);
        x.days(2);
        Kit.due("on", Kit.on(x, Kit.sealed(3, 231, 0, 0, 0, 0, 0, 1, 99, 98, 97, 0, 2, 1, 2, 3, 1)), true);
        int[][] want = {{0, 0, 0, 0, 0}, {1, 99, 98, 97, 0}, {2, 1, 2, 3, 1}};
        for (int t = 0; t < 3; t++) {
            for (int k = 0; k < 5; k++) {
                Kit.due("thing " + t + " " + (k + 3), x.thing(t, k + 3), want[t][k]);
            }
        }
        Kit.due("DAY", x.has(3), 999);
        Kit.due("KEPT", x.has(9), 0);
        Kit.due("ACTS", x.has(10), 0);
        Kit.due("none to undo", x.undo(), false);
        Kit.due("the tape goes", x.end(1), false);
        // its own image brings it back
        x.image();
        int[] own = new int[18];
        Arrays.setAll(own, x::octet);
        String ahead = Kit.all(x);
        x.strike(0);
        x.mend(1, 0);
        Kit.due("on", Kit.on(x, own), true);
        Kit.dueAll("on", x, ahead);
        MendedThings none = new MendedThings();
        none.days(9);
        Kit.due("the DAY alone", Kit.on(none, Kit.sealed(0, 0)), true);
        Kit.due("DAY 0", none.has(3), 0);
    }

    @Says(at = "Promise 33", text = "false, refused (5), when it is none (DAY 999, each number 99 at most; FORGED just what is MENDED), all staying.")
    static void onRefused() {
        int[][] none = {
            {}, {0}, {0, 0, 13}, {0, 0, 0, 0, 0, 0, 0}, {0, 0, 0, 0, 0, 0, 0, 0},
            Kit.sealed(3, 232, 0, 0, 0, 0, 0), Kit.sealed(4, 0, 0, 0, 0, 0, 0), Kit.sealed(255, 255, 0, 0, 0, 0, 0),
            Kit.sealed(0, 0, 3, 0, 0, 0, 0), Kit.sealed(0, 0, 255, 0, 0, 0, 0),
            Kit.sealed(0, 0, 0, 100, 0, 0, 0), Kit.sealed(0, 0, 0, 0, 100, 0, 0), Kit.sealed(0, 0, 0, 0, 0, 100, 0),
            Kit.sealed(0, 0, 0, 255, 0, 0, 0), Kit.sealed(0, 0, 0, 0, 255, 0, 0), Kit.sealed(0, 0, 0, 0, 0, 255, 0),
            Kit.sealed(0, 0, 0, 0, 0, 0, 1), Kit.sealed(0, 0, 1, 0, 0, 0, 1), Kit.sealed(0, 0, 2, 0, 0, 0, 2),
            Kit.sealed(0, 0, 2, 0, 0, 0, 255), Kit.sealed(0, 0, 0, 0, 0, 0), Kit.sealed(0, 0, 0, 0, 0, 0, 0, 0),
            Kit.sealed(0, 0, 0, 0, 0, 0, 0, 0, 0, 0, 0, 0),
        };
        for (int[] image : none) {
            MendedThings x = Kit.of(A + M);
            x.strike(0);
            x.mend(0, 0);
            String ahead = Kit.all(x);
            Kit.due("on " + Arrays.toString(image), Kit.on(x, image), false);
            Kit.due("refused", x.status(5), 1);
            Kit.due("the tape goes", x.end(1), false);
            Kit.dueAll("on " + Arrays.toString(image), x, ahead);
        }
        int[][] images = {Kit.sealed(3, 231, 0, 0, 0, 0, 0), Kit.sealed(0, 0, 2, 99, 99, 99, 1), Kit.sealed(0, 0, 2, 0, 0, 0, 0),
            Kit.sealed(0, 0, 1, 99, 99, 99, 0)};
        for (int[] image : images) {
            Kit.due("on " + Arrays.toString(image), Kit.on(Kit.of(A + M), image), true);
        }
        // what is wrong in the last thing alone: nothing is taken of the first ones
        MendedThings x = Kit.of(Kit.things(8));
        int[] bytes = new int[42];
        bytes[1] = 7;
        bytes[2] = 1;
        bytes[37] = 3;
        String ahead = Kit.all(x);
        Kit.due("the eighth is none", Kit.on(x, Kit.sealed(bytes)), false);
        Kit.dueAll("on", x, ahead);
        bytes[37] = 2;
        Kit.due("the eighth is mended", Kit.on(x, Kit.sealed(bytes)), true);
        Kit.due("the eighth", x.thing(7, 3), 2);
    }

    @Says(at = "Promise 34", text = "How many were refused: 0 feed(), end(); 1 island(), see(); 2 strike(), mend(), forge(); 3 days(), chance(); 4 undo();"
        + " 5 seed(), on().")
    static void refusals() {
        MendedThings x = new MendedThings();
        int[] want = new int[6];
        for (int round = 0; round < 2; round++) {
            for (int call = round; call < 12; call++) {
                want[refuse(x, call)]++;
                for (int what = 0; what < 6; what++) {
                    Kit.due("call " + call + ", status " + what, x.status(what), want[what]);
                }
            }
        }
        Kit.island(x, A + M);
        for (int what = 0; what < 6; what++) {
            Kit.due("what is not refused counts nothing, status " + what, x.status(what), want[what]);
        }
    }

    /** Makes a call that is refused; where it is counted. */
    private static int refuse(MendedThings x, int call) {
        switch (call) {
            case 0:
                for (int k = 0; k < 80; k++) {
                    x.feed(0, 0, 0, 0, 0);
                }
                x.feed(0, 0, 0, 0, 0);
                x.end(0);
                return 0;
            case 1: return x.end(-1) ? NONE : 0;
            case 2: return Kit.island(x, "!") == NONE ? 1 : NONE;
            case 3: return x.see(0) == NONE ? 1 : NONE;
            case 4: return x.strike(0) ? NONE : 2;
            case 5: return x.mend(0, 0) == NONE ? 2 : NONE;
            case 6: return x.forge(0) ? NONE : 2;
            case 7: return x.days(0) == NONE ? 3 : NONE;
            case 8: return x.chance(0) == NONE ? 3 : NONE;
            case 9: return x.undo() ? NONE : 4;
            case 10: return x.seed(-1) ? NONE : 5;
            case 11: return x.on() ? NONE : 5;
            default: return NONE;
        }
    }

    @Says(at = "Promise 34", text = "NONE for others.")
    static void statusOfOthers() {
        MendedThings x = new MendedThings();
        Kit.due("status 6", x.status(6), NONE);
        for (int what : ODD) {
            Kit.due("status " + what, x.status(what), NONE);
        }
    }
}
