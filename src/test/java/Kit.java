import java.nio.charset.StandardCharsets;

/** What the tests share: texts are fed in twenties, answers are compared, and the count is told at the end. */
final class Kit {
    private static int wrong = 0;
    private static int asked = 0;

    private Kit() {
    }

    static void due(String what, long got, long want) {
        asked++;
        if (got != want) {
            wrong++;
            System.out.println(what + " answered " + got + ", due is " + want);
        }
    }

    static void due(String what, boolean got, boolean want) {
        due(what, got ? 1 : 0, want ? 1 : 0);
    }

    /** Puts the bytes on an empty tape; a text that is too long is cut where the tape ends. */
    static void put(MendedThings x, byte[] bytes) {
        for (int at = 0; at < bytes.length; at += 20) {
            int[] five = new int[5];
            for (int k = 0; k < 20; k++) {
                int octet = at + k < bytes.length ? bytes[at + k] & 255 : 32;
                five[k / 4] = five[k / 4] << 8 | octet;
            }
            x.feed(five[0], five[1], five[2], five[3], five[4]);
        }
        x.end(Math.min(bytes.length, 1600));
    }

    static byte[] bytes(String text) {
        return text.getBytes(StandardCharsets.ISO_8859_1);
    }

    static byte[] bytes(int... numbers) {
        byte[] row = new byte[numbers.length];
        for (int k = 0; k < row.length; k++) {
            row[k] = (byte) numbers[k];
        }
        return row;
    }

    static int island(MendedThings x, String text) {
        put(x, bytes(text));
        return x.island();
    }

    static MendedThings of(String text) {
        MendedThings x = new MendedThings();
        if (island(x, text) < 0) {
            due("the island " + text + " is read, but fault " + x.fault(0) + " at " + x.fault(1), 0, 1);
        }
        return x;
    }

    static long ask(MendedThings x, String text) {
        put(x, bytes(text));
        return x.ask();
    }

    static int see(MendedThings x, int thing, int... days) {
        put(x, bytes(days));
        return x.see(thing);
    }

    static boolean on(MendedThings x, int... image) {
        put(x, bytes(image));
        return x.on();
    }

    /** An image's bytes with the right last one behind them. */
    static int[] sealed(int... ahead) {
        int[] whole = java.util.Arrays.copyOf(ahead, ahead.length + 1);
        int c = 113;
        for (int octet : ahead) {
            c = (3 * c + octet) % 251;
        }
        whole[ahead.length] = c;
        return whole;
    }

    static void finish(String name) {
        System.out.println(name + ": " + asked + " answers, " + wrong + " not as due");
        if (wrong != 0 || asked == 0) {
            System.exit(1);
        }
    }
}
