import java.nio.charset.StandardCharsets;

/** What the tests share: texts are fed in twenties, answers are compared, and the count is told at the end. */
final class Kit {
    private static int wrong = 0;
    private static int asked = 0;
    private static String heading = "";

    private Kit() {
    }

    static void due(String what, long got, long want) {
        asked++;
        if (got != want) {
            wrong++;
            System.out.println(heading + what + " answered " + got + ", due is " + want);
        }
    }

    static void due(String what, boolean got, boolean want) {
        due(what, got ? 1 : 0, want ? 1 : 0);
    }

    /** What stands ahead of each wrong answer that is told from now on. */
    static void head(String text) {
        heading = text;
    }

    static int asked() {
        return asked;
    }

    /** An island that is read, with so many statements. */
    static void whole(String text, int statements) {
        MendedThings x = new MendedThings();
        due(text, island(x, text), statements);
        due(text + " fault " + x.fault(1), x.fault(0), 0);
    }

    /** The island has its fault at the mark ^, which is taken out of the text. */
    static void faultAt(String marked, int kind) {
        String text = marked.replace("^", "");
        MendedThings x = new MendedThings();
        due(text, island(x, text), MendedThings.NONE);
        due(text + " kind", x.fault(0), kind);
        due(text + " place", x.fault(1), marked.indexOf('^'));
    }

    /** The question has its fault at the mark ^, which is taken out of the text; without a mark it has none. */
    static void askFaultAt(String marked, int kind) {
        String text = marked.replace("^", "");
        MendedThings x = new MendedThings();
        due(text, ask(x, text) == MendedThings.NOTHING, kind != 0);
        due(text + " kind", x.fault(0), kind);
        due(text + " place", x.fault(1), marked.indexOf('^'));
    }

    static String thing(String name, int worth, int use, int frail) {
        return "thing " + name + " worth " + worth + " use " + use + " frail " + frail + ";";
    }

    static String mender(String name, int skill, int hours) {
        return "mender " + name + " skill " + skill + " hours " + hours + ";";
    }

    /** So many things a, b, c, .. of worth 1, use 1, frail 1. */
    static String things(int count) {
        StringBuilder text = new StringBuilder();
        for (int t = 0; t < count; t++) {
            text.append(thing(String.valueOf((char) ('a' + t)), 1, 1, 1));
        }
        return text.toString();
    }

    /** All that an act could change, in a row: two rows are alike if all stayed. */
    static String all(MendedThings x) {
        StringBuilder row = new StringBuilder();
        for (int what : new int[] {0, 1, 2, 3, 9, 10}) {
            row.append(x.has(what)).append(' ');
        }
        for (int t = 0, things = x.has(0); t < things; t++) {
            for (int what = 3; what <= 7; what++) {
                row.append(x.thing(t, what)).append(' ');
            }
        }
        for (int k = 0, kept = x.has(9); k < kept; k++) {
            row.append(x.kept(k, 0)).append(x.kept(k, 1)).append(x.kept(k, 2)).append(' ');
        }
        return row.toString();
    }

    static void dueAll(String what, MendedThings x, String ahead) {
        due(what + ": all stays", all(x).equals(ahead), true);
    }

    /** Puts an island of things to a day, all of them being as at first. */
    static void toDay(MendedThings x, int day) {
        int[] ahead = new int[2 + 5 * x.has(0)];
        ahead[0] = day / 256;
        ahead[1] = day % 256;
        due("on at DAY " + day, on(x, sealed(ahead)), true);
    }

    /** Puts the bytes on an empty tape; a text that is too long is cut where the tape ends. */
    static void put(MendedThings x, byte[] bytes) {
        for (int at = 0; at < bytes.length; at += 20) {
            int[] five = new int[5];
            for (int k = 0; k < 20; k++) {
                int octet = at + k < bytes.length ? bytes[at + k] & 255 : 32;
                five[k / 4] = five[k / 4] << 8 | octet;
            }
            x.feed(five[0], five[1], five[2], five[3], five[4]);
        }
        x.end(Math.min(bytes.length, 1600));
    }

    static byte[] bytes(String text) {
        return text.getBytes(StandardCharsets.ISO_8859_1);
    }

    static byte[] bytes(int... numbers) {
        byte[] row = new byte[numbers.length];
        for (int k = 0; k < row.length; k++) {
            row[k] = (byte) numbers[k];
        }
        return row;
    }

    static int island(MendedThings x, String text) {
        put(x, bytes(text));
        return x.island();
    }

    static MendedThings of(String text) {
        MendedThings x = new MendedThings();
        if (island(x, text) < 0) {
            due("the island " + text + " is read, but fault " + x.fault(0) + " at " + x.fault(1), 0, 1);
        }
        return x;
    }

    static long ask(MendedThings x, String text) {
        put(x, bytes(text));
        return x.ask();
    }

    static int see(MendedThings x, int thing, int... days) {
        put(x, bytes(days));
        return x.see(thing);
    }

    static boolean on(MendedThings x, int... image) {
        put(x, bytes(image));
        return x.on();
    }

    /** An image's bytes with the right last one behind them. */
    static int[] sealed(int... ahead) {
        int[] whole = java.util.Arrays.copyOf(ahead, ahead.length + 1);
        int c = 113;
        for (int octet : ahead) {
            c = (3 * c + octet) % 251;
        }
        whole[ahead.length] = c;
        return whole;
    }

    static void finish(String name) {
        System.out.println(name + ": " + asked + " answers, " + wrong + " not as due");
        if (wrong != 0 || asked == 0) {
            System.exit(1);
        }
    }
}
