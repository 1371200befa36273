import java.util.ArrayDeque;
import java.util.ArrayList;
import java.util.Arrays;
import java.util.HashSet;
import java.util.List;
import java.util.Set;
import java.util.function.ToLongFunction;

/** The document once more, as slowly and plainly as can be, to set beside the class in random runs. */
final class Model {
    static final int NONE = -1;
    static final long NOTHING = -1000000000000000L;
    private static final Set<String> OWN = Set.of("thing", "worth", "use", "frail", "mender", "skill", "hours", "trial", "is",
        "stands", "falls", "takes", "fine", "first", "cat", "breaks", "mends", "day", "glue", "number", "forged", "last", "or",
        "and", "not", "all", "min", "max");

    private static final class Fault extends RuntimeException {
        private static final long serialVersionUID = 1L;
        final int kind;
        final int place;

        Fault(int kind, int place) {
            this.kind = kind;
            this.place = place;
        }
    }

    /** What a sum may look at. */
    private record Sight(World world, int thing, int skill) {
    }

    private record Sum(ToLongFunction<Sight> by) {
        long of(World world, int thing, int skill) {
            return by.applyAsLong(new Sight(world, thing, skill));
        }
    }

    private record Token(String text, int at) {
        boolean isWord() {
            return !text.isEmpty() && Character.isLowerCase(text.charAt(0));
        }

        boolean isNumber() {
            return !text.isEmpty() && Character.isDigit(text.charAt(0));
        }
    }

    private static final class Land {
        final List<String> things = new ArrayList<>();
        final List<int[]> told = new ArrayList<>();
        final List<String> menders = new ArrayList<>();
        final List<int[]> hands = new ArrayList<>();
        final List<String> trials = new ArrayList<>();
        final List<Sum> tests = new ArrayList<>();
        Sum stands;
        Sum falls;
        Sum takes;
        Sum fine;
        Sum first;
        int cat = 0;
        int statements = 0;
    }

    private static final class World {
        Land land = new Land();
        int day = 0;
        /** What, broke, mended, glue, forged, frail. */
        int[][] rows = new int[0][];
        List<int[]> kept = new ArrayList<>();

        World copy() {
            World c = new World();
            c.land = land;
            c.day = day;
            c.rows = new int[rows.length][];
            for (int t = 0; t < rows.length; t++) {
                c.rows[t] = rows[t].clone();
            }
            c.kept = new ArrayList<>(kept);
            return c;
        }

        boolean stands(int t) {
            return rows[t][0] == 2 && (land.stands == null ? rows[t][2] > 0 : land.stands.of(this, t, 0) != 0);
        }

        int hours(int t, int m) {
            long sum = land.takes == null ? 4 : land.takes.of(this, t, land.hands.get(m)[0]);
            return (int) Math.max(1, Math.min(99, sum));
        }

        int fineness(int t, int m) {
            int skill = land.hands.get(m)[0];
            long sum = land.fine == null ? skill : land.fine.of(this, t, skill);
            return (int) Math.max(0, Math.min(99, sum));
        }

        long rank(int t) {
            return land.first == null ? land.told.get(t)[1] : land.first.of(this, t, 0);
        }

        void hit(int t) {
            rows[t][0] = 1;
            rows[t][1] = Math.min(99, rows[t][1] + 1);
            rows[t][4] = 0;
            kept.add(new int[] {day, t, 0});
        }

        void heal(int t, int m) {
            int fine = fineness(t, m);
            rows[t][0] = 2;
            rows[t][2] = Math.min(99, rows[t][2] + 1);
            rows[t][3] = fine;
            kept.add(new int[] {day, t, m + 1});
        }

        Set<Integer> live() {
            Set<Integer> fallen = new HashSet<>();
            for (int t = 0; t < rows.length; t++) {
                if (rows[t][0] != 1 && land.falls != null && land.falls.of(this, t, 0) != 0) {
                    fallen.add(t);
                }
            }
            for (int t = 0; t < rows.length; t++) {
                if (fallen.contains(t)) {
                    hit(t);
                }
            }
            int[] left = new int[land.menders.size()];
            for (int m = 0; m < left.length; m++) {
                left[m] = land.hands.get(m)[1];
            }
            while (true) {
                int bestThing = -1;
                int bestMender = -1;
                for (int t = rows.length - 1; t >= 0; t--) {
                    int by = -1;
                    for (int m = left.length - 1; m >= 0; m--) {
                        if (left[m] >= hours(t, m)) {
                            by = m;
                        }
                    }
                    if (rows[t][0] == 1 && by >= 0 && (bestThing < 0 || rank(t) >= rank(bestThing))) {
                        bestThing = t;
                        bestMender = by;
                    }
                }
                if (bestThing < 0) {
                    break;
                }
                left[bestMender] -= hours(bestThing, bestMender);
                heal(bestThing, bestMender);
            }
            day++;
            return fallen;
        }

        int standing() {
            int set = 0;
            for (int t = 0; t < rows.length; t++) {
                set += stands(t) ? 1 << t : 0;
            }
            return set;
        }

        int are(int what) {
            int set = 0;
            for (int t = 0; t < rows.length; t++) {
                set += rows[t][0] == what ? 1 << t : 0;
            }
            return set;
        }

        int total(int set, int what) {
            int total = 0;
            for (int t = 0; t < rows.length; t++) {
                total += (set & 1 << t) != 0 ? land.told.get(t)[what] : 0;
            }
            return total;
        }

        int use() {
            return total(standing(), 1);
        }
    }

    /** Reads by throwing at the first fault. */
    private static final class Parser {
        final String text;
        final List<Token> tokens = new ArrayList<>();
        int next = 0;
        String extra = "";
        boolean question = false;

        Parser(String text) {
            this.text = text;
            int at = 0;
            while (at < text.length()) {
                char c = text.charAt(at);
                int from = at++;
                if (c == ' ' || c == '\n') {
                    continue;
                }
                if (c >= 'a' && c <= 'z') {
                    while (at < text.length() && text.charAt(at) >= 'a' && text.charAt(at) <= 'z') {
                        at++;
                    }
                } else if (c >= '0' && c <= '9') {
                    while (at < text.length() && text.charAt(at) >= '0' && text.charAt(at) <= '9') {
                        at++;
                    }
                }
                String piece = text.substring(from, at);
                Token ahead = tokens.isEmpty() ? null : tokens.get(tokens.size() - 1);
                boolean touches = ahead != null && ahead.at() + ahead.text().length() == from;
                boolean both = touches && ahead.text().matches("[a-z0-9]+") && piece.matches("[a-z0-9]+");
                tokens.add(new Token(both || c < 32 || c > 126 ? "?" + piece : piece, from));
            }
            tokens.add(new Token("", text.length()));
        }

        Token peek() {
            return tokens.get(next);
        }

        boolean see(String what) {
            return peek().text().equals(what);
        }

        Fault wrong() {
            return new Fault(1, peek().at());
        }

        Token take() {
            return tokens.get(next++);
        }

        void need(String what) {
            if (!see(what)) {
                throw wrong();
            }
            next++;
        }

        int number(int least, int most) {
            if (!peek().isNumber()) {
                throw wrong();
            }
            Token t = take();
            if (t.text().length() > 4) {
                throw new Fault(1, t.at() + 4);
            }
            int value = Integer.parseInt(t.text());
            if (value < least || value > most) {
                throw new Fault(2, t.at());
            }
            return value;
        }

        String name(Land land) {
            if (!peek().isWord() || OWN.contains(peek().text())) {
                throw wrong();
            }
            Token t = take();
            if (t.text().length() > 6) {
                throw new Fault(1, t.at() + 6);
            }
            if (land.things.contains(t.text()) || land.menders.contains(t.text()) || land.trials.contains(t.text())) {
                throw new Fault(3, t.at());
            }
            return t.text();
        }

        Land land() {
            Land land = new Land();
            while (!see("")) {
                if (land.statements == 80) {
                    throw new Fault(5, peek().at());
                }
                statement(land);
                need(";");
                land.statements++;
            }
            return land;
        }

        void limit(boolean full, Token at) {
            if (full) {
                throw new Fault(5, at.at());
            }
        }

        void statement(Land land) {
            Token t = peek();
            if (!t.isWord()) {
                throw wrong();
            }
            switch (t.text()) {
                case "thing" -> {
                    limit(land.things.size() == 8, take());
                    String name = name(land);
                    need("worth");
                    int worth = number(0, 99);
                    need("use");
                    int use = number(0, 99);
                    need("frail");
                    land.told.add(new int[] {worth, use, number(0, 9)});
                    land.things.add(name);
                }
                case "mender" -> {
                    limit(land.menders.size() == 4, take());
                    String name = name(land);
                    need("skill");
                    int skill = number(0, 9);
                    need("hours");
                    land.hands.add(new int[] {skill, number(1, 24)});
                    land.menders.add(name);
                }
                case "trial" -> {
                    limit(land.trials.size() == 5, take());
                    String name = name(land);
                    need("is");
                    extra = "glue";
                    land.tests.add(test(0));
                    land.trials.add(name);
                }
                case "stands" -> {
                    limit(land.stands != null, take());
                    extra = "glue";
                    land.stands = test(0);
                }
                case "falls" -> {
                    limit(land.falls != null, take());
                    extra = "";
                    land.falls = test(0);
                }
                case "takes" -> {
                    limit(land.takes != null, take());
                    extra = "skill";
                    land.takes = sum(0);
                }
                case "fine" -> {
                    limit(land.fine != null, take());
                    extra = "skill";
                    land.fine = sum(0);
                }
                case "first" -> {
                    limit(land.first != null, take());
                    extra = "";
                    land.first = sum(0);
                }
                case "cat" -> {
                    take();
                    land.cat = number(0, 100);
                }
                default -> throw wrong();
            }
        }

        void open(int depth) {
            if (depth == 6) {
                throw new Fault(4, peek().at());
            }
            take();
        }

        Sum test(int depth) {
            Sum a = both(depth);
            while (see("or")) {
                take();
                Sum l = a;
                Sum r = both(depth);
                a = new Sum(s -> l.by().applyAsLong(s) != 0 || r.by().applyAsLong(s) != 0 ? 1 : 0);
            }
            return a;
        }

        Sum both(int depth) {
            Sum a = fact(depth);
            while (see("and")) {
                take();
                Sum l = a;
                Sum r = fact(depth);
                a = new Sum(s -> l.by().applyAsLong(s) != 0 && r.by().applyAsLong(s) != 0 ? 1 : 0);
            }
            return a;
        }

        Sum fact(int depth) {
            if (see("not")) {
                open(depth);
                Sum a = fact(depth + 1);
                return new Sum(s -> a.by().applyAsLong(s) == 0 ? 1 : 0);
            }
            if (see("[")) {
                open(depth);
                Sum a = test(depth + 1);
                need("]");
                return a;
            }
            if (see("all")) {
                take();
                return new Sum(s -> 1);
            }
            Sum l = sum(depth);
            if (!see("<") && !see(">") && !see("=")) {
                throw wrong();
            }
            String sign = take().text();
            Sum r = sum(depth);
            return new Sum(s -> {
                int c = Long.compare(l.by().applyAsLong(s), r.by().applyAsLong(s));
                return sign.equals("<") && c < 0 || sign.equals(">") && c > 0 || sign.equals("=") && c == 0 ? 1 : 0;
            });
        }

        static long cut(long v) {
            return Math.max(-1000000, Math.min(1000000, v));
        }

        Sum sum(int depth) {
            Sum a = product(depth);
            while (see("+") || see("-")) {
                int sign = take().text().equals("+") ? 1 : -1;
                Sum l = a;
                Sum r = product(depth);
                a = new Sum(s -> cut(l.by().applyAsLong(s) + sign * r.by().applyAsLong(s)));
            }
            return a;
        }

        Sum product(int depth) {
            Sum a = part(depth);
            while (see("*") || see("/")) {
                boolean times = take().text().equals("*");
                Sum l = a;
                Sum r = part(depth);
                a = new Sum(s -> {
                    long x = l.by().applyAsLong(s);
                    long y = r.by().applyAsLong(s);
                    return times ? cut(x * y) : y == 0 ? 0 : (long) Math.floor((double) x / y);
                });
            }
            return a;
        }

        Sum part(int depth) {
            Token t = peek();
            if (t.isNumber()) {
                int value = number(0, 9999);
                return new Sum(s -> value);
            }
            if (see("(")) {
                open(depth);
                Sum a = sum(depth + 1);
                need(")");
                return a;
            }
            if (see("min") || see("max")) {
                boolean least = take().text().equals("min");
                if (!see("(")) {
                    throw wrong();
                }
                open(depth);
                Sum l = sum(depth + 1);
                need(",");
                Sum r = sum(depth + 1);
                need(")");
                return new Sum(s -> least ? Math.min(l.by().applyAsLong(s), r.by().applyAsLong(s))
                    : Math.max(l.by().applyAsLong(s), r.by().applyAsLong(s)));
            }
            if (question && see("is")) {
                open(depth);
                Sum a = part(depth + 1);
                return new Sum(s -> {
                    long trial = a.by().applyAsLong(s);
                    List<Sum> tests = s.world().land.tests;
                    return trial >= 0 && trial < tests.size() && tests.get((int) trial).of(s.world(), s.thing(), 0) != 0 ? 1 : 0;
                });
            }
            return word(t.text());
        }

        Sum word(String word) {
            ToLongFunction<Sight> by = switch (word) {
                case "worth" -> s -> s.world().land.told.get(s.thing())[0];
                case "use" -> s -> s.world().land.told.get(s.thing())[1];
                case "frail" -> s -> s.world().rows[s.thing()][5];
                case "breaks" -> s -> s.world().rows[s.thing()][1];
                case "mends" -> s -> s.world().rows[s.thing()][2];
                case "day" -> s -> s.world().day;
                case "glue" -> question || extra.equals("glue") ? s -> s.world().rows[s.thing()][3] : null;
                case "skill" -> !question && extra.equals("skill") ? s -> s.skill() : null;
                case "number" -> question ? s -> s.thing() : null;
                case "forged" -> question ? s -> s.world().rows[s.thing()][4] : null;
                default -> null;
            };
            if (by == null) {
                throw wrong();
            }
            take();
            return new Sum(by);
        }
    }

    private final StringBuilder tape = new StringBuilder();
    private World now = new World();
    private final ArrayDeque<World> past = new ArrayDeque<>();
    private long seed = 1;
    private int faultKind = 0;
    private int faultPlace = NONE;
    private int[] bytes = new int[0];
    private final int[] refused = new int[6];

    private int refuse(int which) {
        refused[which]++;
        return NONE;
    }

    public int feed(int a, int b, int c, int d, int e) {
        if (tape.length() > 1580) {
            return refuse(0);
        }
        for (int n : new int[] {a, b, c, d, e}) {
            tape.append((char) (n >>> 24)).append((char) (n >>> 16 & 255)).append((char) (n >>> 8 & 255)).append((char) (n & 255));
        }
        return tape.length();
    }

    public boolean end(int n) {
        if (n < 0 || n > tape.length()) {
            return refuse(0) == 0;
        }
        tape.setLength(n);
        return true;
    }

    private String text() {
        String text = tape.toString();
        tape.setLength(0);
        return text;
    }

    public int island() {
        faultKind = 0;
        faultPlace = NONE;
        try {
            Land land = new Parser(text()).land();
            now = new World();
            now.land = land;
            now.rows = new int[land.things.size()][6];
            for (int t = 0; t < now.rows.length; t++) {
                now.rows[t][5] = land.told.get(t)[2];
            }
            past.clear();
            return land.statements;
        } catch (Fault fault) {
            faultKind = fault.kind;
            faultPlace = fault.place;
            return refuse(1);
        }
    }

    public int fault(int what) {
        return what == 0 ? faultKind : what == 1 ? faultPlace : NONE;
    }

    private List<int[]> told() {
        return now.kept.subList(Math.max(0, now.kept.size() - 50), now.kept.size());
    }

    public int has(int what) {
        int[] all = {now.rows.length, now.land.menders.size(), now.land.trials.size(), now.day, Integer.bitCount(now.are(1)),
            Integer.bitCount(now.are(2)), Integer.bitCount(now.standing()),
            (int) Arrays.stream(now.rows).filter(r -> r[4] == 1).count(), now.use(), told().size(), past.size()};
        return what >= 0 && what < all.length ? all[what] : NONE;
    }

    public int letter(int kind, int which, int k) {
        List<String> names = kind == 0 ? now.land.things : kind == 1 ? now.land.menders : kind == 2 ? now.land.trials : List.of();
        if (which < 0 || which >= names.size() || k < 0 || k > 5) {
            return NONE;
        }
        return k < names.get(which).length() ? names.get(which).charAt(k) - 'a' + 1 : 0;
    }

    private boolean isThing(int t) {
        return t >= 0 && t < now.rows.length;
    }

    private boolean isMender(int m) {
        return m >= 0 && m < now.land.menders.size();
    }

    public int thing(int t, int what) {
        if (!isThing(t) || what < 0 || what > 8) {
            return NONE;
        }
        if (what < 3) {
            return now.land.told.get(t)[what];
        }
        return what == 8 ? now.stands(t) ? 1 : 0 : now.rows[t][what - 3];
    }

    public int mender(int m, int what) {
        return isMender(m) && (what == 0 || what == 1) ? now.land.hands.get(m)[what] : NONE;
    }

    public int takes(int t, int m) {
        return isThing(t) && isMender(m) ? now.hours(t, m) : NONE;
    }

    public int fine(int t, int m) {
        return isThing(t) && isMender(m) ? now.fineness(t, m) : NONE;
    }

    public int trial(int r, int t) {
        if (r < 0 || r >= now.land.trials.size() || !isThing(t)) {
            return NONE;
        }
        return (int) now.land.tests.get(r).of(now, t, 0);
    }

    public int kept(int k, int what) {
        return k >= 0 && k < told().size() && what >= 0 && what < 3 ? told().get(k)[what] : NONE;
    }

    public int later(int n, int what) {
        if (n < 0 || n > 60 || now.day + n > 999 || what < 0 || what > 3) {
            return NONE;
        }
        World w = now.copy();
        int broke = 0;
        for (int k = 0; k < n; k++) {
            broke += w.live().size();
        }
        return new int[] {w.standing(), w.are(1), w.use(), broke}[what];
    }

    public int breaks(int t) {
        if (!isThing(t)) {
            return NONE;
        }
        World w = now.copy();
        for (int k = 1; k <= 60 && now.day + k <= 999; k++) {
            if (w.live().contains(t)) {
                return k;
            }
        }
        return NONE;
    }

    public int house(int use, int what) {
        if (use < 0 || use > 999 || what < 0 || what > 1 || now.land.menders.isEmpty()) {
            return NONE;
        }
        int best = NONE;
        for (int set = (1 << now.rows.length) - 1; set >= 0; set--) {
            if ((set & now.are(1)) != 0) {
                continue;
            }
            World w = now.copy();
            for (int t = 0; t < now.rows.length; t++) {
                if ((set & 1 << t) != 0) {
                    w.hit(t);
                    w.heal(t, 0);
                }
            }
            if (w.use() < use) {
                continue;
            }
            int worth = now.total(set, 0);
            int bestWorth = best == NONE ? Integer.MAX_VALUE : now.total(best, 0);
            if (worth < bestWorth || worth == bestWorth && Integer.bitCount(set) <= Integer.bitCount(best)) {
                best = set;
            }
        }
        return best == NONE || what == 0 ? best : now.total(best, 0);
    }

    public long gain(int t, int m) {
        if (!isThing(t) || !isMender(m) || now.rows[t][0] != 1) {
            return NOTHING;
        }
        World w = now.copy();
        w.heal(t, m);
        return w.use() - now.use();
    }

    private int bestCost;
    private List<Integer> bestRow;

    private void rows(List<Integer> row, int hours, int cost) {
        if (row.size() == Integer.bitCount(now.are(1))) {
            if (cost < bestCost) {
                bestCost = cost;
                bestRow = new ArrayList<>(row);
            }
            return;
        }
        for (int t = 0; t < now.rows.length; t++) {
            if (now.rows[t][0] == 1 && !row.contains(t)) {
                List<Integer> longer = new ArrayList<>(row);
                longer.add(t);
                int done = hours + now.hours(t, 0);
                rows(longer, done, cost + done * now.land.told.get(t)[1]);
            }
        }
    }

    public int row(int k) {
        int broken = Integer.bitCount(now.are(1));
        if (broken > 6 || now.land.menders.isEmpty() || k < NONE || k >= broken) {
            return NONE;
        }
        bestCost = Integer.MAX_VALUE;
        rows(new ArrayList<>(), 0, 0);
        return k == NONE ? bestCost : bestRow.get(k);
    }

    public int parts() {
        int best = NONE;
        for (int set = (1 << now.land.trials.size()) - 1; set >= 0; set--) {
            boolean parted = true;
            for (int f = 0; f < now.rows.length; f++) {
                for (int g = 0; g < now.rows.length; g++) {
                    if (now.rows[f][4] == 1 && now.rows[g][0] == 2 && now.rows[g][4] == 0) {
                        boolean differs = false;
                        for (int r = 0; r < now.land.trials.size(); r++) {
                            differs |= (set & 1 << r) != 0 && trial(r, f) != trial(r, g);
                        }
                        parted &= differs;
                    }
                }
            }
            if (parted && (best == NONE || Integer.bitCount(set) <= Integer.bitCount(best))) {
                best = set;
            }
        }
        return best;
    }

    public int lawed(int law, int what) {
        if (law < 0 || law > 2 || what < 0 || what > 1) {
            return NONE;
        }
        int use = 0;
        int wronged = 0;
        for (int t = 0; t < now.rows.length; t++) {
            boolean stands = law == 0 ? now.stands(t) : now.rows[t][0] == 2 && (law == 1 || now.rows[t][2] > 1);
            use += stands ? now.land.told.get(t)[1] : 0;
            wronged += stands != now.stands(t) ? 1 << t : 0;
        }
        return what == 0 ? use : wronged;
    }

    private boolean breaksIn(int t, int frail, int day) {
        World w = now.copy();
        w.rows[t][5] = frail;
        boolean broke = false;
        for (int k = 1; k <= day; k++) {
            broke = w.live().contains(t);
        }
        return broke;
    }

    public int see(int t) {
        String told = text();
        boolean such = isThing(t) && told.length() >= 1 && told.length() <= 20;
        for (int k = 0; k < told.length(); k++) {
            such = such && told.charAt(k) >= 1 && told.charAt(k) <= 30 && (k == 0 || told.charAt(k) > told.charAt(k - 1));
        }
        if (!such || now.day + told.charAt(told.length() - 1) > 999) {
            return refuse(1);
        }
        int can = 0;
        for (int frail = 0; frail < 10; frail++) {
            boolean alike = true;
            for (int d = 1; d <= told.charAt(told.length() - 1); d++) {
                alike = alike && breaksIn(t, frail, d) == told.indexOf((char) d) >= 0;
            }
            can += alike ? 1 << frail : 0;
        }
        return can;
    }

    public int tells(int t, int what) {
        if (!isThing(t) || now.day + 30 > 999 || what < 0 || what > 1) {
            return NONE;
        }
        int best = 0;
        int bestLeft = 99;
        for (int d = 30; d >= 1; d--) {
            int yes = 0;
            for (int frail = 0; frail < 10; frail++) {
                yes += breaksIn(t, frail, d) ? 1 : 0;
            }
            if (Math.max(yes, 10 - yes) <= bestLeft) {
                bestLeft = Math.max(yes, 10 - yes);
                best = d;
            }
        }
        return what == 0 ? best : bestLeft;
    }

    private void act() {
        past.addLast(now);
        now = now.copy();
        if (past.size() > 20) {
            past.removeFirst();
        }
    }

    public boolean strike(int t) {
        if (!isThing(t) || now.rows[t][0] == 1) {
            return refuse(2) == 0;
        }
        act();
        now.hit(t);
        return true;
    }

    public int mend(int t, int m) {
        if (!isThing(t) || !isMender(m) || now.rows[t][0] != 1) {
            return refuse(2);
        }
        act();
        now.heal(t, m);
        return now.rows[t][3];
    }

    public boolean forge(int t) {
        if (!isThing(t) || now.rows[t][0] != 0) {
            return refuse(2) == 0;
        }
        act();
        now.rows[t][0] = 2;
        now.rows[t][3] = 50;
        now.rows[t][4] = 1;
        return true;
    }

    public int days(int n) {
        if (n < 1 || n > 100 || now.day > 999 - n) {
            return refuse(3);
        }
        act();
        int broke = 0;
        for (int k = 0; k < n; k++) {
            broke += now.live().size();
        }
        return broke;
    }

    private int draw(int m) {
        seed = 1103515245L * seed + 12345 & 0x7fffffffL;
        return (int) (Math.floorDiv(seed, 64L) % m);
    }

    public int chance(int n) {
        if (n < 1 || n > 100 || now.day > 999 - n) {
            return refuse(3);
        }
        act();
        int cats = 0;
        for (int k = 0; k < n; k++) {
            boolean comes = draw(100) < now.land.cat;
            if (comes && now.rows.length > 0) {
                cats++;
                int t = draw(now.rows.length);
                if (now.rows[t][0] != 1) {
                    now.hit(t);
                }
            }
            now.live();
        }
        return cats;
    }

    public boolean undo() {
        if (past.isEmpty()) {
            return refuse(4) == 0;
        }
        now = past.removeLast();
        return true;
    }

    public boolean seed(int s) {
        if (s < 0) {
            return refuse(5) == 0;
        }
        seed = s;
        return true;
    }

    public long ask() {
        faultKind = 0;
        faultPlace = NONE;
        try {
            Parser p = new Parser(text());
            p.question = true;
            String word = p.peek().text();
            boolean test = List.of("first", "last", "often").contains(word);
            if (!test && !List.of("total", "most", "least").contains(word)) {
                throw p.wrong();
            }
            p.take();
            Sum sum = test ? p.test(0) : p.sum(0);
            p.need("");
            long[] each = new long[now.rows.length];
            for (int t = 0; t < each.length; t++) {
                each[t] = sum.of(now, t, 0);
            }
            return answer(word, each);
        } catch (Fault fault) {
            faultKind = fault.kind;
            faultPlace = fault.place;
            return NOTHING;
        }
    }

    private static long answer(String word, long[] each) {
        List<Integer> holding = new ArrayList<>();
        for (int t = 0; t < each.length; t++) {
            if (each[t] != 0) {
                holding.add(t);
            }
        }
        return switch (word) {
            case "first" -> holding.isEmpty() ? NONE : holding.get(0);
            case "last" -> holding.isEmpty() ? NONE : holding.get(holding.size() - 1);
            case "often" -> holding.size();
            case "total" -> Arrays.stream(each).sum();
            case "most" -> Arrays.stream(each).max().orElse(0);
            default -> Arrays.stream(each).min().orElse(0);
        };
    }

    private static int seal(int[] row, int size) {
        int c = 113;
        for (int k = 0; k < size; k++) {
            c = (3 * c + row[k]) % 251;
        }
        return c;
    }

    public int image() {
        int[] row = new int[3 + 5 * now.rows.length];
        row[0] = now.day >> 8;
        row[1] = now.day & 255;
        for (int t = 0; t < now.rows.length; t++) {
            System.arraycopy(now.rows[t], 0, row, 2 + 5 * t, 5);
        }
        row[row.length - 1] = seal(row, row.length - 1);
        bytes = row;
        return row.length;
    }

    public int octet(int k) {
        return k >= 0 && k < bytes.length ? bytes[k] : NONE;
    }

    public boolean on() {
        int[] row = text().chars().toArray();
        boolean good = row.length == 3 + 5 * now.rows.length && row[row.length - 1] == seal(row, row.length - 1)
            && row[0] * 256 + row[1] < 1000;
        for (int t = 0; good && t < now.rows.length; t++) {
            int at = 2 + 5 * t;
            good = row[at] < 3 && row[at + 1] < 100 && row[at + 2] < 100 && row[at + 3] < 100
                && (row[at + 4] == 0 || row[at + 4] == 1 && row[at] == 2);
        }
        if (!good) {
            return refuse(5) == 0;
        }
        now = now.copy();
        now.day = row[0] * 256 + row[1];
        for (int t = 0; t < now.rows.length; t++) {
            System.arraycopy(row, 2 + 5 * t, now.rows[t], 0, 5);
        }
        now.kept.clear();
        past.clear();
        return true;
    }

    public int status(int what) {
        return what >= 0 && what < 6 ? refused[what] : NONE;
    }
}
