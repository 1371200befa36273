import java.util.Arrays;

/** An island of things that break and are mended, told as a text; what each call answers is in DOC.md. */
public final class MendedThings {
    public static final int NONE = -1;
    public static final long NOTHING = -1000000000000000L;

    private static final int MOST_BYTES = 1600;
    private static final int MOST_STATEMENTS = 80;
    private static final int MOST_THINGS = 8;
    private static final int MOST_MENDERS = 4;
    private static final int MOST_TRIALS = 5;
    private static final int MOST_LETTERS = 6;
    private static final int MOST_DIGITS = 4;
    private static final int MOST_OPEN = 6;
    private static final int MOST_BROKEN_IN_ROW = 6;
    private static final int MOST_ORDERS = 720;
    private static final int MOST_KEPT = 50;
    private static final int MOST_UNDONE = 20;
    private static final int MOST_DAYS = 100;
    private static final int MOST_AHEAD = 60;
    private static final int MOST_SEEN = 20;
    private static final int LAST_SEEN_DAY = 30;
    private static final int FRAILS = 10;
    private static final int MOST_USE = 999;
    private static final int LAST_DAY = 999;
    private static final int MOST_COUNT = 99;
    private static final int FORGED_GLUE = 50;
    private static final int LIMIT = 1000000;

    private static final int WHOLE = 0;
    private static final int BROKEN = 1;
    private static final int MENDED = 2;

    /** The words by their numbers below: first the own words, then those of questions alone; a blank behind each. */
    private static final String WORDS =
        "thing worth use frail mender skill hours trial is stands falls takes fine first cat breaks mends day glue number forged last or and not all min max often total most least ";
    private static final int THING = 0;
    private static final int WORTH = 1;
    private static final int USE = 2;
    private static final int FRAIL = 3;
    private static final int MENDER = 4;
    private static final int SKILL = 5;
    private static final int HOURS = 6;
    private static final int TRIAL = 7;
    private static final int IS = 8;
    private static final int STANDS = 9;
    private static final int FALLS = 10;
    private static final int TAKES = 11;
    private static final int FINE = 12;
    private static final int FIRST = 13;
    private static final int CAT = 14;
    private static final int BREAKS = 15;
    private static final int MENDS = 16;
    private static final int DAY = 17;
    private static final int GLUE = 18;
    private static final int NUMBER = 19;
    private static final int FORGED = 20;
    private static final int LAST = 21;
    private static final int OR = 22;
    private static final int AND = 23;
    private static final int NOT = 24;
    private static final int ALL = 25;
    private static final int MIN = 26;
    private static final int MAX = 27;
    private static final int OFTEN = 28;
    private static final int TOTAL = 29;
    private static final int MOST = 30;
    private static final int LEAST = 31;
    private static final int OWN_WORDS = 28;

    /** A rule's steps: below STEP a number is meant itself, from STEP on a word, from SIGN_STEP on a sign. */
    private static final int STEP = 10000;
    private static final int SIGN_STEP = 10100;

    /** The rules of an island by their places: the trials come first. A question has the one rule 0. */
    private static final int RULE_STANDS = 5;
    private static final int RULE_FALLS = 6;
    private static final int RULE_TAKES = 7;
    private static final int RULE_FINE = 8;
    private static final int RULE_FIRST = 9;
    private static final int RULES = 10;
    private static final int RULE_ASKED = 0;

    /** What a part may name beside what it always may. */
    private static final int PLAIN_PARTS = 0;
    private static final int GLUE_PARTS = 1;
    private static final int SKILL_PARTS = 2;
    private static final int ASKED_PARTS = 3;

    private static final int BYTES_A_THING = 5;
    private static final int MOST_IMAGE = 43;

    private final Tape tape;
    private final Reader reader;
    private final Reckoner reckoner;
    private final Mending mending;
    private final Plans plans;
    private final Rules asked;
    private final State now;
    private final State spareState;
    private final Past past;
    private final int[] picture;
    private final int[] refusals;
    private Island spareIsland;
    private int pictureSize;
    private long seedNow;
    private int faultKind;
    private int faultPlace;

    public MendedThings() {
        Island none = new Island();
        tape = new Tape();
        asked = new Rules();
        spareIsland = new Island();
        reader = new Reader(tape, spareIsland);
        reckoner = new Reckoner();
        mending = new Mending(reckoner);
        plans = new Plans(mending);
        now = new State(none);
        spareState = new State(none);
        past = new Past(none);
        picture = new int[MOST_IMAGE];
        refusals = new int[6];
        pictureSize = 0;
        seedNow = 1;
        faultKind = 0;
        faultPlace = NONE;
    }

    public int feed(int a, int b, int c, int d, int e) {
        if (tape.size + 20 > MOST_BYTES) {
            return refuse(0);
        }
        tape.put(a);
        tape.put(b);
        tape.put(c);
        tape.put(d);
        tape.put(e);
        return tape.size;
    }

    public boolean end(int n) {
        if (n < 0 || n > tape.size) {
            refuse(0);
            return false;
        }
        tape.size = n;
        return true;
    }

    public int island() {
        boolean read = reader.readIsland(spareIsland);
        noteFault();
        tape.size = 0;
        if (!read) {
            return refuse(1);
        }
        Island told = spareIsland;
        spareIsland = now.land;
        now.settle(told);
        past.count = 0;
        return told.statements;
    }

    public int fault(int what) {
        if (what == 0) {
            return faultKind;
        }
        return what == 1 ? faultPlace : NONE;
    }

    public int has(int what) {
        switch (what) {
            case 0: return now.land.things;
            case 1: return now.land.menders;
            case 2: return now.land.trials;
            case 3: return now.day;
            case 4: return Integer.bitCount(now.thingsThatAre(BROKEN));
            case 5: return Integer.bitCount(now.thingsThatAre(MENDED));
            case 6: return Integer.bitCount(mending.standing(now));
            case 7: return Integer.bitCount(now.forgedThings());
            case 8: return now.land.useOf(mending.standing(now));
            case 9: return now.notes;
            case 10: return past.count;
            default: return NONE;
        }
    }

    public int letter(int kind, int which, int k) {
        if (k < 0 || k >= MOST_LETTERS) {
            return NONE;
        }
        if (kind == 0 && isThing(which)) {
            return letterOf(now.land.thingNames[which], k);
        }
        if (kind == 1 && isMender(which)) {
            return letterOf(now.land.menderNames[which], k);
        }
        if (kind == 2 && isTrial(which)) {
            return letterOf(now.land.trialNames[which], k);
        }
        return NONE;
    }

    public int thing(int thing, int what) {
        if (!isThing(thing)) {
            return NONE;
        }
        switch (what) {
            case 0: return now.land.worth[thing];
            case 1: return now.land.use[thing];
            case 2: return now.frail[thing];
            case 3: return now.what[thing];
            case 4: return now.broke[thing];
            case 5: return now.mended[thing];
            case 6: return now.glue[thing];
            case 7: return now.forged[thing];
            case 8: return mending.standsNow(now, thing) ? 1 : 0;
            default: return NONE;
        }
    }

    public int mender(int mender, int what) {
        if (!isMender(mender)) {
            return NONE;
        }
        if (what == 0) {
            return now.land.skill[mender];
        }
        return what == 1 ? now.land.hours[mender] : NONE;
    }

    public int takes(int thing, int mender) {
        return isThing(thing) && isMender(mender) ? mending.hoursFor(now, thing, mender) : NONE;
    }

    public int fine(int thing, int mender) {
        return isThing(thing) && isMender(mender) ? mending.finenessBy(now, thing, mender) : NONE;
    }

    public int trial(int trial, int thing) {
        if (!isTrial(trial) || !isThing(thing)) {
            return NONE;
        }
        return mending.passed(now, thing) >> trial & 1;
    }

    public int kept(int k, int what) {
        if (k < 0 || k >= now.notes) {
            return NONE;
        }
        switch (what) {
            case 0: return now.noteDay[k];
            case 1: return now.noteThing[k];
            case 2: return now.noteWhat[k];
            default: return NONE;
        }
    }

    // ---- ahead

    public int later(int n, int what) {
        if (n < 0 || n > daysAhead() || what < 0 || what > 3) {
            return NONE;
        }
        spareState.copyFrom(now);
        int broken = 0;
        for (int k = 0; k < n; k++) {
            broken += Integer.bitCount(mending.liveDay(spareState));
        }
        switch (what) {
            case 0: return mending.standing(spareState);
            case 1: return spareState.thingsThatAre(BROKEN);
            case 2: return spareState.land.useOf(mending.standing(spareState));
            default: return broken;
        }
    }

    public int breaks(int thing) {
        if (!isThing(thing)) {
            return NONE;
        }
        int most = daysAhead();
        spareState.copyFrom(now);
        for (int k = 1; k <= most; k++) {
            if ((mending.liveDay(spareState) >> thing & 1) == 1) {
                return k;
            }
        }
        return NONE;
    }

    // ---- what to break, to mend

    public int house(int use, int what) {
        if (use < 0 || use > MOST_USE || what < 0 || what > 1 || now.land.menders == 0) {
            return NONE;
        }
        int struck = plans.cheapestHouse(now, spareState, use);
        if (struck == NONE) {
            return NONE;
        }
        return what == 0 ? struck : now.land.worthOf(struck);
    }

    public long gain(int thing, int mender) {
        if (!isThing(thing) || !isMender(mender) || now.what[thing] != BROKEN) {
            return NOTHING;
        }
        spareState.copyFrom(now);
        mending.mendThing(spareState, thing, mender);
        return (long) now.land.useOf(mending.standing(spareState)) - now.land.useOf(mending.standing(now));
    }

    public int row(int k) {
        int broken = Integer.bitCount(now.thingsThatAre(BROKEN));
        if (now.land.menders == 0 || broken > MOST_BROKEN_IN_ROW || k < NONE || k >= broken) {
            return NONE;
        }
        plans.findBestRow(now);
        return k == NONE ? plans.bestCost : plans.best[k];
    }

    public int parts() {
        return plans.fewestTrials(now);
    }

    public int lawed(int law, int what) {
        if (law < 0 || law > 2 || what < 0 || what > 1) {
            return NONE;
        }
        int told = mending.standing(now);
        int byLaw = told;
        if (law > 0) {
            byLaw = now.thingsThatAre(MENDED);
        }
        if (law == 2) {
            byLaw &= now.thingsMendedTwice();
        }
        return what == 0 ? now.land.useOf(byLaw) : told ^ byLaw;
    }

    // ---- how frail

    public int see(int thing) {
        int seen = tape.seenDays();
        int last = tape.lastByte();
        tape.size = 0;
        if (seen == 0 || !isThing(thing) || now.day + last > LAST_DAY) {
            return refuse(1);
        }
        plans.tryFrails(now, spareState, thing, last);
        return plans.frailsThatBreak(seen);
    }

    public int tells(int thing, int what) {
        if (!isThing(thing) || now.day + LAST_SEEN_DAY > LAST_DAY || what < 0 || what > 1) {
            return NONE;
        }
        plans.tryFrails(now, spareState, thing, LAST_SEEN_DAY);
        plans.findTelling();
        return what == 0 ? plans.tellingDay : plans.tellingLeft;
    }

    // ---- acts

    public boolean strike(int thing) {
        if (!isThing(thing) || now.what[thing] == BROKEN) {
            refuse(2);
            return false;
        }
        past.push(now);
        now.breakThing(thing);
        return true;
    }

    public int mend(int thing, int mender) {
        if (!isThing(thing) || !isMender(mender) || now.what[thing] != BROKEN) {
            return refuse(2);
        }
        past.push(now);
        mending.mendThing(now, thing, mender);
        return now.glue[thing];
    }

    public boolean forge(int thing) {
        if (!isThing(thing) || now.what[thing] != WHOLE) {
            refuse(2);
            return false;
        }
        past.push(now);
        now.what[thing] = MENDED;
        now.glue[thing] = FORGED_GLUE;
        now.forged[thing] = 1;
        return true;
    }

    public int days(int n) {
        if (!canCome(n)) {
            return refuse(3);
        }
        past.push(now);
        int broken = 0;
        for (int k = 0; k < n; k++) {
            broken += Integer.bitCount(mending.liveDay(now));
        }
        return broken;
    }

    public int chance(int n) {
        if (!canCome(n)) {
            return refuse(3);
        }
        past.push(now);
        int cats = 0;
        for (int k = 0; k < n; k++) {
            cats += catComes() ? 1 : 0;
            mending.liveDay(now);
        }
        return cats;
    }

    public boolean undo() {
        if (past.count == 0) {
            refuse(4);
            return false;
        }
        past.pop(now);
        return true;
    }

    public boolean seed(int seed) {
        if (seed < 0) {
            refuse(5);
            return false;
        }
        seedNow = seed;
        return true;
    }

    // ---- questions

    public long ask() {
        boolean read = reader.readQuestion(asked);
        noteFault();
        tape.size = 0;
        if (!read) {
            return NOTHING;
        }
        return reader.asksTest() ? answerTest(reader.question) : answerSum(reader.question);
    }

    // ---- images, refusals

    public int image() {
        int size = 0;
        picture[size++] = now.day / 256;
        picture[size++] = now.day % 256;
        for (int t = 0; t < now.land.things; t++) {
            picture[size++] = now.what[t];
            picture[size++] = now.broke[t];
            picture[size++] = now.mended[t];
            picture[size++] = now.glue[t];
            picture[size++] = now.forged[t];
        }
        picture[size] = seal(picture, size);
        pictureSize = size + 1;
        return pictureSize;
    }

    public int octet(int k) {
        return k >= 0 && k < pictureSize ? picture[k] : NONE;
    }

    public boolean on() {
        boolean whole = isImage();
        tape.size = 0;
        if (!whole) {
            refuse(5);
            return false;
        }
        takeImage();
        past.count = 0;
        return true;
    }

    public int status(int what) {
        return what >= 0 && what < refusals.length ? refusals[what] : NONE;
    }

    private int refuse(int which) {
        refusals[which]++;
        return NONE;
    }

    private void noteFault() {
        faultKind = reader.faultKind;
        faultPlace = reader.faultPlace;
    }

    private boolean isThing(int thing) {
        return thing >= 0 && thing < now.land.things;
    }

    private boolean isMender(int mender) {
        return mender >= 0 && mender < now.land.menders;
    }

    private boolean isTrial(int trial) {
        return trial >= 0 && trial < now.land.trials;
    }

    /** Whether so many days can come: none comes beyond the last day. */
    private boolean canCome(int days) {
        return days >= 1 && days <= MOST_DAYS && now.day + days <= LAST_DAY;
    }

    /** How many days ahead can be told. */
    private int daysAhead() {
        return Math.min(MOST_AHEAD, LAST_DAY - now.day);
    }

    /** A name is its letters as digits of base 27, filled up with 0 to six of them. */
    private static int letterOf(int name, int k) {
        int rest = name;
        for (int after = k + 1; after < MOST_LETTERS; after++) {
            rest /= 27;
        }
        return rest % 27;
    }

    private int draw(int m) {
        seedNow = (1103515245L * seedNow + 12345L) % 2147483648L;
        return m > 0 ? (int) (seedNow / 64 % m) : 0;
    }

    /** Whether a cat comes ahead of a day; what it meets breaks. */
    private boolean catComes() {
        if (draw(100) >= now.land.cat || now.land.things == 0) {
            return false;
        }
        int met = draw(now.land.things);
        if (now.what[met] != BROKEN) {
            now.breakThing(met);
        }
        return true;
    }

    private int askedOf(int thing) {
        return reckoner.reckon(asked, RULE_ASKED, now, thing, mending.passed(now, thing));
    }

    private long answerTest(int question) {
        int first = NONE;
        int last = NONE;
        int often = 0;
        for (int t = 0; t < now.land.things; t++) {
            if (askedOf(t) != 0) {
                first = first == NONE ? t : first;
                last = t;
                often++;
            }
        }
        if (question == OFTEN) {
            return often;
        }
        return question == FIRST ? first : last;
    }

    private long answerSum(int question) {
        long total = 0;
        int most = 0;
        int least = 0;
        for (int t = 0; t < now.land.things; t++) {
            int sum = askedOf(t);
            total += sum;
            most = t == 0 ? sum : Math.max(most, sum);
            least = t == 0 ? sum : Math.min(least, sum);
        }
        if (question == TOTAL) {
            return total;
        }
        return question == MOST ? most : least;
    }

    private static int seal(int[] bytes, int size) {
        int c = 113;
        for (int k = 0; k < size; k++) {
            c = (3 * c + bytes[k]) % 251;
        }
        return c;
    }

    private boolean isImage() {
        int things = now.land.things;
        int last = 2 + BYTES_A_THING * things;
        if (tape.size != last + 1 || tape.bytes[last] != seal(tape.bytes, last)) {
            return false;
        }
        if (256 * tape.bytes[0] + tape.bytes[1] > LAST_DAY) {
            return false;
        }
        for (int t = 0; t < things; t++) {
            if (!isImageOfThing(2 + BYTES_A_THING * t)) {
                return false;
            }
        }
        return true;
    }

    private boolean isImageOfThing(int at) {
        int[] bytes = tape.bytes;
        int what = bytes[at];
        int forged = bytes[at + 4];
        return what <= MENDED
            && bytes[at + 1] <= MOST_COUNT
            && bytes[at + 2] <= MOST_COUNT
            && bytes[at + 3] <= MOST_COUNT
            && (forged == 0 || forged == 1 && what == MENDED);
    }

    private void takeImage() {
        now.day = 256 * tape.bytes[0] + tape.bytes[1];
        for (int t = 0; t < now.land.things; t++) {
            int at = 2 + BYTES_A_THING * t;
            now.what[t] = tape.bytes[at];
            now.broke[t] = tape.bytes[at + 1];
            now.mended[t] = tape.bytes[at + 2];
            now.glue[t] = tape.bytes[at + 3];
            now.forged[t] = tape.bytes[at + 4];
        }
        now.notes = 0;
    }

    /** The bytes that were fed and not yet read. */
    private static final class Tape {
        final int[] bytes = new int[MOST_BYTES];
        int size = 0;

        void put(int number) {
            for (int shift = 24; shift >= 0 && size < MOST_BYTES; shift -= 8) {
                bytes[size++] = number >> shift & 255;
            }
        }

        int lastByte() {
            return size > 0 ? bytes[size - 1] : 0;
        }

        /** The days told as seen, day d as bit d; 0 when the tape tells no such days. */
        int seenDays() {
            if (size > MOST_SEEN) {
                return 0;
            }
            int seen = 0;
            int ahead = 0;
            for (int k = 0; k < size; k++) {
                int day = bytes[k];
                if (day <= ahead || day > LAST_SEEN_DAY) {
                    return 0;
                }
                seen |= 1 << day;
                ahead = day;
            }
            return seen;
        }
    }

    /** Tests and sums as steps for a stack, each rule a stretch of them. */
    private static final class Rules {
        /** No byte of a text makes more than one step; the rest is for the rules that were not told. */
        final int[] steps = new int[MOST_BYTES + 16];
        final int[] from = new int[RULES];
        final int[] to = new int[RULES];
        int size = 0;

        void clear() {
            size = 0;
            Arrays.fill(from, 0);
            Arrays.fill(to, 0);
        }

        void open(int rule) {
            from[rule] = size;
        }

        boolean close(int rule) {
            to[rule] = size;
            return true;
        }

        boolean isTold(int rule) {
            return to[rule] > from[rule];
        }

        boolean add(int step) {
            if (size >= steps.length) {
                return false;
            }
            steps[size++] = step;
            return true;
        }
    }

    /** What a text tells. */
    private static final class Island {
        final int[] thingNames = new int[MOST_THINGS];
        final int[] worth = new int[MOST_THINGS];
        final int[] use = new int[MOST_THINGS];
        final int[] frail = new int[MOST_THINGS];
        final int[] menderNames = new int[MOST_MENDERS];
        final int[] skill = new int[MOST_MENDERS];
        final int[] hours = new int[MOST_MENDERS];
        final int[] trialNames = new int[MOST_TRIALS];
        final Rules rules = new Rules();
        int things = 0;
        int menders = 0;
        int trials = 0;
        int cat = 0;
        int statements = 0;

        void clear() {
            rules.clear();
            things = 0;
            menders = 0;
            trials = 0;
            cat = 0;
            statements = 0;
        }

        boolean hasName(int name) {
            return isAmong(thingNames, things, name)
                || isAmong(menderNames, menders, name)
                || isAmong(trialNames, trials, name);
        }

        private static boolean isAmong(int[] names, int count, int name) {
            for (int k = 0; k < count; k++) {
                if (names[k] == name) {
                    return true;
                }
            }
            return false;
        }

        void addDefaults() {
            if (!rules.isTold(RULE_STANDS)) {
                rules.open(RULE_STANDS);
                rules.add(STEP + MENDS);
                rules.add(0);
                rules.add(SIGN_STEP + '>');
                rules.close(RULE_STANDS);
            }
            addDefault(RULE_FALLS, 0);
            addDefault(RULE_TAKES, 4);
            addDefault(RULE_FINE, STEP + SKILL);
            addDefault(RULE_FIRST, STEP + USE);
        }

        private void addDefault(int rule, int step) {
            if (!rules.isTold(rule)) {
                rules.open(rule);
                rules.add(step);
                rules.close(rule);
            }
        }

        int useOf(int set) {
            return totalOf(use, set);
        }

        int worthOf(int set) {
            return totalOf(worth, set);
        }

        private int totalOf(int[] numbers, int set) {
            int total = 0;
            for (int t = 0; t < things; t++) {
                total += (set >> t & 1) * numbers[t];
            }
            return total;
        }
    }

    /** Reads a text from the tape; the first fault along it ends the reading. */
    private static final class Reader {
        private static final int END = 0;
        private static final int WORD = 1;
        private static final int DIGITS = 2;
        private static final int SIGN = 3;
        private static final int STUCK = 4;

        private final Tape tape;
        private Island land;
        private Rules out;
        private int parts = PLAIN_PARTS;
        private int kind = END;
        private int start = 0;
        private int stop = 0;
        private int word = NONE;
        private int value = 0;
        private int taken = 0;
        int question = NONE;
        int faultKind = 0;
        int faultPlace = NONE;

        Reader(Tape tape, Island land) {
            this.tape = tape;
            this.land = land;
            this.out = land.rules;
        }

        boolean readIsland(Island into) {
            land = into;
            land.clear();
            out = land.rules;
            begin();
            for (int k = 0; k < MOST_STATEMENTS && kind != END; k++) {
                if (!statement() || !takeSign(';')) {
                    return false;
                }
                land.statements++;
            }
            if (kind != END) {
                return fail(5, start);
            }
            land.addDefaults();
            return true;
        }

        boolean readQuestion(Rules into) {
            out = into;
            out.clear();
            parts = ASKED_PARTS;
            begin();
            question = kind == WORD ? word : NONE;
            if (!asksTest() && !asksSum()) {
                return wrong();
            }
            advance();
            out.open(RULE_ASKED);
            if (asksTest() ? !test(0) : !sum(0)) {
                return false;
            }
            out.close(RULE_ASKED);
            return kind == END || wrong();
        }

        boolean asksTest() {
            return question == FIRST || question == LAST || question == OFTEN;
        }

        private boolean asksSum() {
            return question == TOTAL || question == MOST || question == LEAST;
        }

        private void begin() {
            faultKind = 0;
            faultPlace = NONE;
            stop = 0;
            advance();
        }

        private boolean fail(int fault, int place) {
            faultKind = fault;
            faultPlace = place;
            return false;
        }

        private boolean wrong() {
            return fail(1, start);
        }

        /** Goes on to the next word, number or sign. */
        private boolean advance() {
            start = endOfRun(stop, 0);
            word = NONE;
            value = 0;
            if (start >= tape.size) {
                kind = END;
                stop = start;
                return true;
            }
            int sort = sortOf(tape.bytes[start]);
            boolean stuck = start > 0 && start == stop && isWordOrNumber(sort)
                && isWordOrNumber(sortOf(tape.bytes[start - 1]));
            kind = stuck ? STUCK : sort;
            stop = isWordOrNumber(sort) ? endOfRun(start, sort) : start + 1;
            if (kind == WORD) {
                word = wordNumber();
            } else if (kind == DIGITS) {
                value = numberValue();
            } else {
                value = tape.bytes[start];
            }
            return true;
        }

        private static boolean isWordOrNumber(int sort) {
            return sort == WORD || sort == DIGITS;
        }

        /** A byte's sort: 0 a blank, else what it begins. */
        private static int sortOf(int octet) {
            if (octet == 10 || octet == 32) {
                return 0;
            }
            if (octet >= 'a' && octet <= 'z') {
                return WORD;
            }
            return octet >= '0' && octet <= '9' ? DIGITS : SIGN;
        }

        private int endOfRun(int from, int sort) {
            for (int at = from; at < tape.size; at++) {
                if (sortOf(tape.bytes[at]) != sort) {
                    return at;
                }
            }
            return tape.size;
        }

        private int wordNumber() {
            int number = 0;
            int at = start;
            boolean alike = true;
            for (int k = 0; k < WORDS.length(); k++) {
                char c = WORDS.charAt(k);
                if (c != ' ') {
                    alike = alike && at < stop && tape.bytes[at] == c;
                    at++;
                } else if (alike && at == stop) {
                    return number;
                } else {
                    number++;
                    at = start;
                    alike = true;
                }
            }
            return NONE;
        }

        private int numberValue() {
            int number = 0;
            for (int k = start; k < stop && k < start + MOST_DIGITS; k++) {
                number = 10 * number + tape.bytes[k] - '0';
            }
            return number;
        }

        private boolean seesWord(int which) {
            return kind == WORD && word == which;
        }

        private boolean seesSign(char sign) {
            return kind == SIGN && value == sign;
        }

        private boolean takeWord(int which) {
            return seesWord(which) ? advance() : wrong();
        }

        private boolean takeSign(char sign) {
            return seesSign(sign) ? advance() : wrong();
        }

        private boolean takeNumber(int least, int most) {
            if (kind != DIGITS) {
                return wrong();
            }
            if (stop - start > MOST_DIGITS) {
                return fail(1, start + MOST_DIGITS);
            }
            if (value < least || value > most) {
                return fail(2, start);
            }
            taken = value;
            return advance();
        }

        private boolean takeName() {
            if (kind != WORD || word != NONE && word < OWN_WORDS) {
                return wrong();
            }
            if (stop - start > MOST_LETTERS) {
                return fail(1, start + MOST_LETTERS);
            }
            int name = 0;
            for (int k = start; k < start + MOST_LETTERS; k++) {
                name = 27 * name + (k < stop ? tape.bytes[k] - 'a' + 1 : 0);
            }
            if (land.hasName(name)) {
                return fail(3, start);
            }
            taken = name;
            return advance();
        }

        private boolean statement() {
            if (kind != WORD) {
                return wrong();
            }
            switch (word) {
                case THING: return thingStatement();
                case MENDER: return menderStatement();
                case TRIAL: return trialStatement();
                case STANDS: return testStatement(RULE_STANDS, GLUE_PARTS);
                case FALLS: return testStatement(RULE_FALLS, PLAIN_PARTS);
                case TAKES: return sumStatement(RULE_TAKES, SKILL_PARTS);
                case FINE: return sumStatement(RULE_FINE, SKILL_PARTS);
                case FIRST: return sumStatement(RULE_FIRST, PLAIN_PARTS);
                case CAT: return catStatement();
                default: return wrong();
            }
        }

        private boolean thingStatement() {
            int t = land.things;
            if (t >= MOST_THINGS) {
                return fail(5, start);
            }
            advance();
            if (!takeName()) {
                return false;
            }
            land.thingNames[t] = taken;
            if (!takeWord(WORTH) || !takeNumber(0, 99)) {
                return false;
            }
            land.worth[t] = taken;
            if (!takeWord(USE) || !takeNumber(0, 99)) {
                return false;
            }
            land.use[t] = taken;
            if (!takeWord(FRAIL) || !takeNumber(0, FRAILS - 1)) {
                return false;
            }
            land.frail[t] = taken;
            land.things = t + 1;
            return true;
        }

        private boolean menderStatement() {
            int m = land.menders;
            if (m >= MOST_MENDERS) {
                return fail(5, start);
            }
            advance();
            if (!takeName()) {
                return false;
            }
            land.menderNames[m] = taken;
            if (!takeWord(SKILL) || !takeNumber(0, 9)) {
                return false;
            }
            land.skill[m] = taken;
            if (!takeWord(HOURS) || !takeNumber(1, 24)) {
                return false;
            }
            land.hours[m] = taken;
            land.menders = m + 1;
            return true;
        }

        private boolean trialStatement() {
            int r = land.trials;
            if (r >= MOST_TRIALS) {
                return fail(5, start);
            }
            advance();
            if (!takeName()) {
                return false;
            }
            land.trialNames[r] = taken;
            parts = GLUE_PARTS;
            out.open(r);
            if (!takeWord(IS) || !test(0)) {
                return false;
            }
            land.trials = r + 1;
            return out.close(r);
        }

        private boolean testStatement(int rule, int allowed) {
            if (out.isTold(rule)) {
                return fail(5, start);
            }
            parts = allowed;
            out.open(rule);
            return advance() && test(0) && out.close(rule);
        }

        private boolean sumStatement(int rule, int allowed) {
            if (out.isTold(rule)) {
                return fail(5, start);
            }
            parts = allowed;
            out.open(rule);
            return advance() && sum(0) && out.close(rule);
        }

        private boolean catStatement() {
            advance();
            if (!takeNumber(0, 100)) {
                return false;
            }
            land.cat = taken;
            return true;
        }

        private boolean canOpen(int open) {
            return open < MOST_OPEN || fail(4, start);
        }

        private boolean test(int open) {
            if (!both(open)) {
                return false;
            }
            for (int k = 0; k < MOST_BYTES && seesWord(OR); k++) {
                if (!advance() || !both(open) || !out.add(STEP + OR)) {
                    return false;
                }
            }
            return true;
        }

        private boolean both(int open) {
            if (!fact(open)) {
                return false;
            }
            for (int k = 0; k < MOST_BYTES && seesWord(AND); k++) {
                if (!advance() || !fact(open) || !out.add(STEP + AND)) {
                    return false;
                }
            }
            return true;
        }

        private boolean fact(int open) {
            if (seesWord(NOT)) {
                return canOpen(open) && advance() && fact(open + 1) && out.add(STEP + NOT);
            }
            if (seesSign('[')) {
                return canOpen(open) && advance() && test(open + 1) && takeSign(']');
            }
            if (seesWord(ALL)) {
                return out.add(1) && advance();
            }
            return comparison(open);
        }

        private boolean comparison(int open) {
            if (!sum(open)) {
                return false;
            }
            if (!seesSign('<') && !seesSign('>') && !seesSign('=')) {
                return wrong();
            }
            int sign = value;
            return advance() && sum(open) && out.add(SIGN_STEP + sign);
        }

        private boolean sum(int open) {
            if (!product(open)) {
                return false;
            }
            for (int k = 0; k < MOST_BYTES && (seesSign('+') || seesSign('-')); k++) {
                int sign = value;
                if (!advance() || !product(open) || !out.add(SIGN_STEP + sign)) {
                    return false;
                }
            }
            return true;
        }

        private boolean product(int open) {
            if (!part(open)) {
                return false;
            }
            for (int k = 0; k < MOST_BYTES && (seesSign('*') || seesSign('/')); k++) {
                int sign = value;
                if (!advance() || !part(open) || !out.add(SIGN_STEP + sign)) {
                    return false;
                }
            }
            return true;
        }

        private boolean part(int open) {
            if (kind == DIGITS) {
                return takeNumber(0, STEP - 1) && out.add(taken);
            }
            if (seesSign('(')) {
                return canOpen(open) && advance() && sum(open + 1) && takeSign(')');
            }
            if (seesWord(MIN) || seesWord(MAX)) {
                return pair(open, STEP + word);
            }
            if (seesWord(IS) && parts == ASKED_PARTS) {
                return canOpen(open) && advance() && part(open + 1) && out.add(STEP + IS);
            }
            if (kind == WORD && isPartWord()) {
                return out.add(STEP + word) && advance();
            }
            return wrong();
        }

        private boolean pair(int open, int step) {
            advance();
            if (!seesSign('(')) {
                return wrong();
            }
            return canOpen(open) && advance() && sum(open + 1) && takeSign(',')
                && sum(open + 1) && takeSign(')') && out.add(step);
        }

        private boolean isPartWord() {
            switch (word) {
                case WORTH:
                case USE:
                case FRAIL:
                case BREAKS:
                case MENDS:
                case DAY: return true;
                case GLUE: return parts == GLUE_PARTS || parts == ASKED_PARTS;
                case SKILL: return parts == SKILL_PARTS;
                case NUMBER:
                case FORGED: return parts == ASKED_PARTS;
                default: return false;
            }
        }
    }

    /** An island at one moment, with what is kept of its days. */
    private static final class State {
        final int[] what = new int[MOST_THINGS];
        final int[] broke = new int[MOST_THINGS];
        final int[] mended = new int[MOST_THINGS];
        final int[] glue = new int[MOST_THINGS];
        final int[] forged = new int[MOST_THINGS];
        /** Held here, not asked of the island, since days ahead are tried with other numbers, too. */
        final int[] frail = new int[MOST_THINGS];
        final int[] noteDay = new int[MOST_KEPT];
        final int[] noteThing = new int[MOST_KEPT];
        final int[] noteWhat = new int[MOST_KEPT];
        Island land;
        int day = 0;
        int notes = 0;

        State(Island land) {
            this.land = land;
        }

        void settle(Island told) {
            land = told;
            day = 0;
            notes = 0;
            Arrays.fill(what, WHOLE);
            Arrays.fill(broke, 0);
            Arrays.fill(mended, 0);
            Arrays.fill(glue, 0);
            Arrays.fill(forged, 0);
            copyRow(told.frail, frail, MOST_THINGS);
        }

        void copyFrom(State other) {
            land = other.land;
            day = other.day;
            notes = other.notes;
            copyRow(other.what, what, MOST_THINGS);
            copyRow(other.broke, broke, MOST_THINGS);
            copyRow(other.mended, mended, MOST_THINGS);
            copyRow(other.glue, glue, MOST_THINGS);
            copyRow(other.forged, forged, MOST_THINGS);
            copyRow(other.frail, frail, MOST_THINGS);
            copyRow(other.noteDay, noteDay, notes);
            copyRow(other.noteThing, noteThing, notes);
            copyRow(other.noteWhat, noteWhat, notes);
        }

        private static void copyRow(int[] from, int[] to, int count) {
            System.arraycopy(from, 0, to, 0, count);
        }

        int thingsThatAre(int which) {
            int set = 0;
            for (int t = 0; t < land.things; t++) {
                set |= what[t] == which ? 1 << t : 0;
            }
            return set;
        }

        int thingsMendedTwice() {
            int set = 0;
            for (int t = 0; t < land.things; t++) {
                set |= mended[t] >= 2 ? 1 << t : 0;
            }
            return set;
        }

        int forgedThings() {
            int set = 0;
            for (int t = 0; t < land.things; t++) {
                set |= forged[t] << t;
            }
            return set;
        }

        void breakThing(int thing) {
            broke[thing] = Math.min(MOST_COUNT, broke[thing] + 1);
            what[thing] = BROKEN;
            forged[thing] = 0;
            note(thing, 0);
        }

        void note(int thing, int happened) {
            if (notes >= MOST_KEPT) {
                dropOldest(noteDay);
                dropOldest(noteThing);
                dropOldest(noteWhat);
                notes = MOST_KEPT - 1;
            }
            noteDay[notes] = day;
            noteThing[notes] = thing;
            noteWhat[notes] = happened;
            notes++;
        }

        private static void dropOldest(int[] row) {
            System.arraycopy(row, 1, row, 0, row.length - 1);
        }
    }

    /** The states ahead of the latest acts. */
    private static final class Past {
        private final State[] states = new State[MOST_UNDONE];
        private int next = 0;
        int count = 0;

        Past(Island land) {
            for (int k = 0; k < MOST_UNDONE; k++) {
                states[k] = new State(land);
            }
        }

        void push(State now) {
            states[next].copyFrom(now);
            next = (next + 1) % MOST_UNDONE;
            count = Math.min(MOST_UNDONE, count + 1);
        }

        void pop(State now) {
            next = (next + MOST_UNDONE - 1) % MOST_UNDONE;
            now.copyFrom(states[next]);
            count--;
        }
    }

    /** Reckons what a rule gives for a thing; a test gives 1 or 0. */
    private static final class Reckoner {
        /** Six open at once, each with a handful of numbers waiting, stay far below this. */
        private static final int DEPTH = 100;

        private final int[] stack = new int[DEPTH];

        /** Given is the mender's skill in takes and fine, the trials that hold as bits in a question. */
        int reckon(Rules rules, int rule, State state, int thing, int given) {
            int top = 0;
            int end = rules.to[rule];
            for (int k = rules.from[rule]; k < end; k++) {
                int step = rules.steps[k];
                if (step < STEP || isPart(step)) {
                    if (top >= DEPTH) {
                        return 0;
                    }
                    stack[top++] = step < STEP ? step : partOf(step - STEP, state, thing, given);
                } else if (step == STEP + NOT || step == STEP + IS) {
                    if (top < 1) {
                        return 0;
                    }
                    stack[top - 1] = turned(step, stack[top - 1], given);
                } else {
                    if (top < 2) {
                        return 0;
                    }
                    top--;
                    stack[top - 1] = joined(step, stack[top - 1], stack[top]);
                }
            }
            return top > 0 ? stack[top - 1] : 0;
        }

        private static boolean isPart(int step) {
            switch (step - STEP) {
                case WORTH:
                case USE:
                case FRAIL:
                case SKILL:
                case BREAKS:
                case MENDS:
                case DAY:
                case GLUE:
                case NUMBER:
                case FORGED: return true;
                default: return false;
            }
        }

        private static int partOf(int word, State state, int thing, int given) {
            switch (word) {
                case WORTH: return state.land.worth[thing];
                case USE: return state.land.use[thing];
                case FRAIL: return state.frail[thing];
                case BREAKS: return state.broke[thing];
                case MENDS: return state.mended[thing];
                case DAY: return state.day;
                case GLUE: return state.glue[thing];
                case NUMBER: return thing;
                case FORGED: return state.forged[thing];
                default: return given;
            }
        }

        private static int turned(int step, int value, int given) {
            if (step == STEP + NOT) {
                return 1 - value;
            }
            return value >= 0 && value < MOST_TRIALS ? given >> value & 1 : 0;
        }

        private static int joined(int step, int a, int b) {
            switch (step) {
                case STEP + OR: return a | b;
                case STEP + AND: return a & b;
                case STEP + MIN: return Math.min(a, b);
                case STEP + MAX: return Math.max(a, b);
                case SIGN_STEP + '<': return a < b ? 1 : 0;
                case SIGN_STEP + '>': return a > b ? 1 : 0;
                case SIGN_STEP + '=': return a == b ? 1 : 0;
                case SIGN_STEP + '/': return b == 0 ? 0 : Math.floorDiv(a, b);
                case SIGN_STEP + '+': return within(-LIMIT, (long) a + b, LIMIT);
                case SIGN_STEP + '-': return within(-LIMIT, (long) a - b, LIMIT);
                case SIGN_STEP + '*': return within(-LIMIT, (long) a * b, LIMIT);
                default: return 0;
            }
        }

        static int within(int least, long number, int most) {
            if (number < least) {
                return least;
            }
            return number > most ? most : (int) number;
        }
    }

    /** How things stand, break and are mended, in any state. */
    private static final class Mending {
        private final Reckoner reckoner;
        private final int[] rank = new int[MOST_THINGS];
        private final int[] need = new int[MOST_THINGS * MOST_MENDERS];
        private final int[] left = new int[MOST_MENDERS];

        Mending(Reckoner reckoner) {
            this.reckoner = reckoner;
        }

        boolean standsNow(State state, int thing) {
            return state.what[thing] == MENDED
                && reckoner.reckon(state.land.rules, RULE_STANDS, state, thing, 0) != 0;
        }

        int standing(State state) {
            int set = 0;
            for (int t = 0; t < state.land.things; t++) {
                set |= standsNow(state, t) ? 1 << t : 0;
            }
            return set;
        }

        /** The trials that hold for a thing, as bits. */
        int passed(State state, int thing) {
            int set = 0;
            for (int r = 0; r < state.land.trials; r++) {
                set |= reckoner.reckon(state.land.rules, r, state, thing, 0) != 0 ? 1 << r : 0;
            }
            return set;
        }

        int hoursFor(State state, int thing, int mender) {
            int sum = reckoner.reckon(state.land.rules, RULE_TAKES, state, thing, state.land.skill[mender]);
            return Reckoner.within(1, sum, MOST_COUNT);
        }

        int finenessBy(State state, int thing, int mender) {
            int sum = reckoner.reckon(state.land.rules, RULE_FINE, state, thing, state.land.skill[mender]);
            return Reckoner.within(0, sum, MOST_COUNT);
        }

        void mendThing(State state, int thing, int mender) {
            state.glue[thing] = finenessBy(state, thing, mender);
            state.mended[thing] = Math.min(MOST_COUNT, state.mended[thing] + 1);
            state.what[thing] = MENDED;
            state.note(thing, mender + 1);
        }

        /** One day goes by; the things that broke in it, as bits. That it is not beyond the last day is for the caller to see to. */
        int liveDay(State state) {
            int falling = falling(state);
            for (int t = 0; t < state.land.things; t++) {
                if ((falling >> t & 1) == 1) {
                    state.breakThing(t);
                }
            }
            beginWork(state);
            for (int k = 0; k < state.land.things; k++) {
                int thing = nextToMend(state);
                int mender = thing == NONE ? NONE : firstWithHours(state, thing);
                if (mender == NONE) {
                    break;
                }
                left[mender] -= need[thing * MOST_MENDERS + mender];
                mendThing(state, thing, mender);
            }
            state.day++;
            return falling;
        }

        private int falling(State state) {
            int set = 0;
            for (int t = 0; t < state.land.things; t++) {
                if (state.what[t] != BROKEN
                    && reckoner.reckon(state.land.rules, RULE_FALLS, state, t, 0) != 0) {
                    set |= 1 << t;
                }
            }
            return set;
        }

        /** A broken thing's sums stay as they are until it is mended, so once a day is enough. */
        private void beginWork(State state) {
            for (int m = 0; m < state.land.menders; m++) {
                left[m] = state.land.hours[m];
            }
            for (int t = 0; t < state.land.things; t++) {
                if (state.what[t] == BROKEN) {
                    rank[t] = reckoner.reckon(state.land.rules, RULE_FIRST, state, t, 0);
                    for (int m = 0; m < state.land.menders; m++) {
                        need[t * MOST_MENDERS + m] = hoursFor(state, t, m);
                    }
                }
            }
        }

        private int nextToMend(State state) {
            int next = NONE;
            for (int t = 0; t < state.land.things; t++) {
                if (state.what[t] == BROKEN && firstWithHours(state, t) != NONE
                    && (next == NONE || rank[t] > rank[next])) {
                    next = t;
                }
            }
            return next;
        }

        private int firstWithHours(State state, int thing) {
            for (int m = 0; m < state.land.menders; m++) {
                if (left[m] >= need[thing * MOST_MENDERS + m]) {
                    return m;
                }
            }
            return NONE;
        }
    }

    /** What is best to break, to mend, to try, to look at. */
    private static final class Plans {
        private final Mending mending;
        private final int[] order = new int[MOST_BROKEN_IN_ROW];
        private final int[] hours = new int[MOST_THINGS];
        private final int[] marks = new int[MOST_THINGS];
        private final int[] breaking = new int[FRAILS];
        final int[] best = new int[MOST_BROKEN_IN_ROW];
        int bestCost = 0;
        int tellingDay = 0;
        int tellingLeft = 0;

        Plans(Mending mending) {
            this.mending = mending;
        }

        /** The things to strike, as bits; there is a mender. */
        int cheapestHouse(State now, State trying, int use) {
            Island land = now.land;
            int standing = mending.standing(now);
            int broken = now.thingsThatAre(BROKEN);
            int gets = standingIfStruck(now, trying);
            int found = NONE;
            for (int set = 0; set < 1 << land.things; set++) {
                int stands = standing & ~set | gets & set;
                if ((set & broken) == 0 && land.useOf(stands) >= use && isCheaper(land, set, found)) {
                    found = set;
                }
            }
            return found;
        }

        private static boolean isCheaper(Island land, int set, int than) {
            if (than == NONE) {
                return true;
            }
            int worth = land.worthOf(set);
            int thanWorth = land.worthOf(than);
            return worth < thanWorth
                || worth == thanWorth && Integer.bitCount(set) < Integer.bitCount(than);
        }

        /** The things that stand once they are struck and mended, as bits: no thing looks at another. */
        private int standingIfStruck(State now, State trying) {
            trying.copyFrom(now);
            for (int t = 0; t < now.land.things; t++) {
                if (now.what[t] != BROKEN) {
                    trying.breakThing(t);
                    mending.mendThing(trying, t, 0);
                }
            }
            return mending.standing(trying);
        }

        /** Of at most six broken things, with a mender: tries the orders from the first one on. */
        void findBestRow(State now) {
            int count = 0;
            for (int t = 0; t < now.land.things && count < MOST_BROKEN_IN_ROW; t++) {
                if (now.what[t] == BROKEN) {
                    order[count++] = t;
                    hours[t] = mending.hoursFor(now, t, 0);
                }
            }
            keepOrder(now, count);
            for (int k = 1; k < MOST_ORDERS && nextOrder(count); k++) {
                if (costOfOrder(now, count) < bestCost) {
                    keepOrder(now, count);
                }
            }
        }

        private void keepOrder(State now, int count) {
            bestCost = costOfOrder(now, count);
            System.arraycopy(order, 0, best, 0, count);
        }

        private int costOfOrder(State now, int count) {
            int cost = 0;
            int behind = 0;
            for (int k = 0; k < count; k++) {
                behind += hours[order[k]];
                cost += now.land.use[order[k]] * behind;
            }
            return cost;
        }

        /** Makes the next order by numbers; false when there is none. */
        private boolean nextOrder(int count) {
            int at = count - 2;
            while (at >= 0 && order[at] > order[at + 1]) {
                at--;
            }
            if (at < 0) {
                return false;
            }
            int with = count - 1;
            while (with > at + 1 && order[with] < order[at]) {
                with--;
            }
            swap(at, with);
            for (int low = at + 1, high = count - 1; low < high; low++, high--) {
                swap(low, high);
            }
            return true;
        }

        private void swap(int a, int b) {
            int kept = order[a];
            order[a] = order[b];
            order[b] = kept;
        }

        int fewestTrials(State now) {
            for (int t = 0; t < now.land.things; t++) {
                marks[t] = mending.passed(now, t);
            }
            int found = NONE;
            for (int set = 0; set < 1 << now.land.trials; set++) {
                if (partsForged(now, set)
                    && (found == NONE || Integer.bitCount(set) < Integer.bitCount(found))) {
                    found = set;
                }
            }
            return found;
        }

        private boolean partsForged(State now, int set) {
            int forged = now.forgedThings();
            int honest = now.thingsThatAre(MENDED) & ~forged;
            for (int f = 0; f < now.land.things; f++) {
                for (int h = 0; h < now.land.things; h++) {
                    if ((forged >> f & honest >> h & 1) == 1 && ((marks[f] ^ marks[h]) & set) == 0) {
                        return false;
                    }
                }
            }
            return true;
        }

        /** Finds for each number that a thing's frail can be the days in which it breaks then, the first as bit 1. */
        void tryFrails(State now, State trying, int thing, int days) {
            for (int frail = 0; frail < FRAILS; frail++) {
                trying.copyFrom(now);
                trying.frail[thing] = frail;
                breaking[frail] = 0;
                for (int day = 1; day <= days; day++) {
                    breaking[frail] |= (mending.liveDay(trying) >> thing & 1) << day;
                }
            }
        }

        /** Of the numbers just tried, those that break in just these days, as bits. */
        int frailsThatBreak(int seen) {
            int set = 0;
            for (int frail = 0; frail < FRAILS; frail++) {
                set |= breaking[frail] == seen ? 1 << frail : 0;
            }
            return set;
        }

        void findTelling() {
            tellingLeft = FRAILS + 1;
            for (int day = 1; day <= LAST_SEEN_DAY; day++) {
                int broken = 0;
                for (int frail = 0; frail < FRAILS; frail++) {
                    broken += breaking[frail] >> day & 1;
                }
                int left = Math.max(broken, FRAILS - broken);
                if (left < tellingLeft) {
                    tellingLeft = left;
                    tellingDay = day;
                }
            }
        }
    }
}
