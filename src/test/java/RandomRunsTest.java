import java.lang.reflect.Method;
import java.util.Arrays;
import java.util.Random;

/** Random runs of calls, each call made of the class and of Model: the answers must be alike, and none may throw. */
public final class RandomRunsTest {
    private static final int RUNS = 1600;
    /** A call more may need a text of 80 feeds and an end ahead of it, two asks of its fault behind it. */
    private static final int CALLS = 512 - 85;
    private static final String[] CALLED = {"fault", "has", "letter", "thing", "mender", "takes", "fine", "trial", "kept", "later",
        "breaks", "house", "gain", "row", "parts", "lawed", "see", "tells", "strike", "mend", "forge", "days", "chance", "undo",
        "seed", "image", "octet", "status", "strike", "mend", "strike", "mend", "forge", "later", "house", "row", "parts"};

    private final Random random;
    private final MendedThings mended = new MendedThings();
    private final Model model = new Model();
    private final String name;
    private String lastText = "";
    private int made = 0;

    private RandomRunsTest(int run) {
        random = new Random(run);
        name = "run " + run;
    }

    public static void main(String[] args) throws Exception {
        int runs = args.length > 0 ? Integer.parseInt(args[0]) : RUNS;
        for (int run = 0; run < runs; run++) {
            new RandomRunsTest(run).go();
        }
        Kit.finish("RandomRunsTest");
    }

    private void go() throws Exception {
        for (int k = 0; made < CALLS; k++) {
            int dice = random.nextInt(100);
            if (k == 0 || dice < 2) {
                text(new Texts(random).island());
                call("island");
            } else if (dice < 4) {
                text(spoiled(new Texts(random).island()));
                call("island");
            } else if (dice < 12) {
                text(random.nextInt(3) == 0 ? spoiled(new Texts(random).question()) : new Texts(random).question());
                call("ask");
            } else if (dice < 16) {
                days();
                call("see", thing());
            } else if (dice < 19) {
                image();
                call("on");
            } else if (dice < 20) {
                call("feed", random.nextInt(), random.nextInt(), random.nextInt(), random.nextInt(), random.nextInt());
                call("end", random.nextInt(45) - 3);
            } else {
                anyCall(CALLED[random.nextInt(CALLED.length)]);
            }
            call("fault", 0);
            call("fault", 1);
        }
    }

    private int thing() {
        return random.nextInt(10) - 1;
    }

    private void anyCall(String called) throws Exception {
        for (Method m : MendedThings.class.getDeclaredMethods()) {
            if (m.getName().equals(called)) {
                Integer[] values = new Integer[m.getParameterCount()];
                for (int k = 0; k < values.length; k++) {
                    values[k] = number(called, k);
                }
                call(called, values);
            }
        }
    }

    private int number(String called, int k) {
        if (random.nextInt(60) == 0) {
            return random.nextInt();
        }
        switch (called) {
            case "later": return k == 0 ? random.nextInt(64) - 1 : random.nextInt(6) - 1;
            case "house": return k == 0 ? random.nextInt(random.nextBoolean() ? 30 : 300) - 1 : random.nextInt(4) - 1;
            case "days":
            case "chance": return random.nextInt(random.nextInt(10) == 0 ? 110 : 6);
            case "kept": return k == 0 ? random.nextInt(52) - 1 : random.nextInt(4);
            case "seed": return random.nextInt();
            case "octet": return random.nextInt(46) - 1;
            case "mend":
            case "gain": return random.nextInt(k == 0 ? 8 : 3);
            default: return random.nextInt(11) - 1;
        }
    }

    private void text(String text) {
        lastText = text;
        put(Kit.bytes(text));
    }

    private void put(byte[] bytes) {
        for (int at = 0; at < bytes.length; at += 20) {
            int[] five = new int[5];
            for (int k = 0; k < 20; k++) {
                five[k / 4] = five[k / 4] << 8 | (at + k < bytes.length ? bytes[at + k] & 255 : 32);
            }
            made++;
            Kit.due(name + " feed", mended.feed(five[0], five[1], five[2], five[3], five[4]),
                model.feed(five[0], five[1], five[2], five[3], five[4]));
        }
        made++;
        Kit.due(name + " end", mended.end(bytes.length), model.end(bytes.length));
    }

    private void days() {
        int[] row = random.ints(1 + random.nextInt(3), 1, random.nextBoolean() ? 6 : 31).distinct().toArray();
        if (random.nextInt(8) > 0) {
            Arrays.sort(row);
        }
        put(Kit.bytes(row));
    }

    private void image() {
        made++;
        int things = Math.max(0, mended.has(0) - (random.nextInt(30) == 0 ? 1 : 0));
        int[] row = new int[2 + 5 * things];
        int day = random.nextInt(3) == 0 ? 940 + random.nextInt(61) : random.nextInt(300);
        row[0] = day / 256;
        row[1] = day % 256;
        for (int t = 0; t < things; t++) {
            int at = 2 + 5 * t;
            row[at] = random.nextInt(3);
            for (int k = 1; k < 4; k++) {
                row[at + k] = random.nextInt(8) == 0 ? 95 + random.nextInt(5) : random.nextInt(5);
            }
            row[at + 4] = row[at] == 2 ? random.nextInt(2) : 0;
        }
        int[] whole = Kit.sealed(row);
        if (random.nextInt(5) == 0) {
            whole[random.nextInt(row.length)] = random.nextInt(104);
            whole = random.nextBoolean() ? Kit.sealed(Arrays.copyOf(whole, row.length)) : whole;
        }
        put(Kit.bytes(whole));
    }

    private String spoiled(String text) {
        String signs = "abz059;[]()<>=+-*/, \n?A";
        String[] pieces = {" not ", " all ", "(", "[", "12345", "thing", " is ", "worth", "abcdefg", ";cat 1;", " skill ", " glue "};
        StringBuilder changed = new StringBuilder(text);
        for (int k = random.nextInt(3); k >= 0; k--) {
            int at = random.nextInt(changed.length() + 1);
            switch (random.nextInt(4)) {
                case 0 -> changed.insert(at, signs.charAt(random.nextInt(signs.length())));
                case 1 -> changed.insert(at, pieces[random.nextInt(pieces.length)]);
                case 2 -> changed.setLength(at);
                default -> changed.delete(at, Math.min(changed.length(), at + 1 + random.nextInt(2)));
            }
        }
        changed.setLength(Math.min(1600, changed.length()));
        return changed.toString();
    }

    private void call(String called, Integer... values) throws Exception {
        Class<?>[] types = new Class<?>[values.length];
        Arrays.fill(types, int.class);
        made++;
        Object got = MendedThings.class.getMethod(called, types).invoke(mended, (Object[]) values);
        Object want = Model.class.getDeclaredMethod(called, types).invoke(model, (Object[]) values);
        Kit.due(name + " " + called + Arrays.toString(values) + (called.equals("has") ? "" : " text " + lastText), plain(got), plain(want));
    }

    private static long plain(Object answer) {
        return answer instanceof Boolean yes ? yes ? 1 : 0 : ((Number) answer).longValue();
    }

    /** Writes texts by the grammar, deeper ones seldom. */
    private record Texts(Random random) {
        private boolean one(int in) {
            return random.nextInt(in) == 0;
        }

        private String any(String... of) {
            return of[random.nextInt(of.length)];
        }

        String island() {
            StringBuilder text = new StringBuilder();
            int things = random.nextInt(9);
            for (int t = 0; t < things; t++) {
                text.append(any("thing ", "thing  ", "thing\n")).append((char) ('a' + t)).append(any("x", "yy", "abcde"))
                    .append(" worth ").append(random.nextInt(one(3) ? 100 : 10)).append(" use ").append(random.nextInt(one(3) ? 100 : 8))
                    .append(" frail ").append(random.nextInt(10)).append(any(";", " ; "));
            }
            int menders = random.nextInt(5);
            for (int m = 0; m < menders; m++) {
                text.append("mender m").append((char) ('a' + m)).append(" skill ").append(random.nextInt(10)).append(" hours ")
                    .append(1 + random.nextInt(24)).append(";");
            }
            int trials = random.nextInt(6);
            for (int r = 0; r < trials; r++) {
                text.append("trial t").append((char) ('a' + r)).append(" is ").append(test(2, "glue")).append(";");
            }
            text.append(one(2) ? "stands " + test(2, "glue") + ";" : "");
            text.append(one(4) ? "" : "falls " + falls() + ";");
            text.append(one(2) ? "takes " + sum(2, "skill") + ";" : one(2) ? "takes worth/3+9-skill;" : "");
            text.append(one(2) ? "fine " + sum(2, "skill") + ";" : "");
            text.append(one(2) ? "first " + sum(2, "day") + ";" : "");
            text.append(one(3) ? "" : "cat " + random.nextInt(101) + ";");
            if (text.length() > 1600) {
                text.setLength(1600);
            }
            return text.toString();
        }

        private String falls() {
            return switch (random.nextInt(5)) {
                case 0 -> "frail*day>breaks*8+3";
                case 1 -> "day-day/" + (2 + random.nextInt(5)) + "*" + (2 + random.nextInt(5)) + "=frail/2";
                case 2 -> "frail+use>mends*3 and day>frail";
                case 3 -> "day=" + random.nextInt(30) + "-frail*2 or day=frail+3";
                default -> test(2, "day");
            };
        }

        String question() {
            return switch (random.nextInt(6)) {
                case 0 -> "first " + test(3, "asked");
                case 1 -> "last " + test(3, "asked");
                case 2 -> "often " + test(3, "asked");
                case 3 -> "total " + sum(3, "asked");
                case 4 -> "most " + sum(3, "asked");
                default -> "least " + sum(3, "asked");
            };
        }

        private String test(int depth, String extra) {
            StringBuilder text = new StringBuilder(both(depth, extra));
            while (one(4)) {
                text.append(" or ").append(both(depth, extra));
            }
            return text.toString();
        }

        private String both(int depth, String extra) {
            StringBuilder text = new StringBuilder(fact(depth, extra));
            while (one(4)) {
                text.append(" and ").append(fact(depth, extra));
            }
            return text.toString();
        }

        private String fact(int depth, String extra) {
            if (depth > 0 && one(4)) {
                return "not " + fact(depth - 1, extra);
            }
            if (depth > 0 && one(5)) {
                return "[" + test(depth - 1, extra) + "]";
            }
            if (one(12)) {
                return "all";
            }
            return sum(depth - 1, extra) + any("<", ">", " = ", ">") + sum(depth - 1, extra);
        }

        private String sum(int depth, String extra) {
            StringBuilder text = new StringBuilder(product(depth, extra));
            while (one(3)) {
                text.append(any("+", "-", " - ")).append(product(depth, extra));
            }
            return text.toString();
        }

        private String product(int depth, String extra) {
            StringBuilder text = new StringBuilder(part(depth, extra));
            while (one(3)) {
                text.append(any("*", "/", " / ")).append(part(depth, extra));
            }
            return text.toString();
        }

        private String part(int depth, String extra) {
            if (depth > 0 && one(4)) {
                return "(" + sum(depth - 1, extra) + ")";
            }
            if (depth > 0 && one(5)) {
                return any("min", "max ") + "(" + sum(depth - 1, extra) + "," + sum(depth - 1, extra) + ")";
            }
            if (extra.equals("asked") && depth > 0 && one(4)) {
                return "is " + part(depth - 1, extra);
            }
            if (one(3)) {
                return "" + random.nextInt(one(6) ? 10000 : 12);
            }
            String more = extra.equals("asked") ? any("number", "glue", "forged") : extra;
            return any("worth", "use", "frail", "breaks", "mends", "day", more, more, more);
        }
    }
}
