/** Sentences on boundary cases of the texts: islands (Terms I), questions and images (Terms IV). */
final class SentencesOfTexts {
    private static final int NONE = MendedThings.NONE;
    private static final String A = Kit.thing("a", 1, 1, 1);
    private static final String[] OWN = {"thing", "worth", "use", "frail", "mender", "skill", "hours", "trial", "is", "stands", "falls",
        "takes", "fine", "first", "cat", "breaks", "mends", "day", "glue", "number", "forged", "last", "or", "and", "not", "all",
        "min", "max"};

    private SentencesOfTexts() {
    }

    /** What a sum is, asked of one thing of worth 7, use 0, frail 0. */
    private static void sum(String sum, long want) {
        Kit.due(sum, Kit.ask(Kit.of(Kit.thing("a", 7, 0, 0)), "total " + sum), want);
    }

    private static void holds(String test, boolean want) {
        Kit.due(test, Kit.ask(Kit.of(Kit.thing("a", 7, 0, 0)), "often " + test), want ? 1 : 0);
    }

    // ---- Terms I: the statements

    @Says(at = "Terms I", text = "AN ISLAND is a text: { STATEMENT ; } (80 at most)")
    static void statements() {
        Kit.whole("", 0);
        Kit.whole("cat 1;", 1);
        Kit.whole("cat 1;".repeat(79), 79);
        Kit.whole("cat 1;".repeat(80), 80);
        Kit.whole("cat 1;".repeat(80) + " \n ", 80);
        Kit.faultAt("cat 1;".repeat(80) + "^cat 1;", 5);
    }

    @Says(at = "Terms I", text = "thing NAME worth N use N frail N (0 .. 99; 0 .. 99; 0 .. 9; 8 THINGS)")
    static void thingNumbers() {
        MendedThings x = Kit.of(Kit.thing("a", 0, 0, 0) + Kit.thing("b", 99, 99, 9));
        int[][] want = {{0, 0, 0}, {99, 99, 9}};
        for (int t = 0; t < 2; t++) {
            for (int what = 0; what < 3; what++) {
                Kit.due("thing " + t + " " + what, x.thing(t, what), want[t][what]);
            }
        }
        Kit.faultAt("thing a worth ^100 use 1 frail 1;", 2);
        Kit.faultAt("thing a worth 1 use ^100 frail 1;", 2);
        Kit.faultAt("thing a worth 1 use 1 frail ^10;", 2);
        Kit.whole(Kit.things(8), 8);
        Kit.faultAt(Kit.things(8) + "^" + Kit.thing("i", 1, 1, 1), 5);
    }

    @Says(at = "Terms I", text = "mender NAME skill N hours N (0 .. 9; 1 .. 24 a DAY; 4 MENDERS)")
    static void menderNumbers() {
        MendedThings x = Kit.of(Kit.mender("a", 0, 1) + Kit.mender("b", 9, 24));
        Kit.due("least skill", x.mender(0, 0), 0);
        Kit.due("least hours", x.mender(0, 1), 1);
        Kit.due("most skill", x.mender(1, 0), 9);
        Kit.due("most hours", x.mender(1, 1), 24);
        Kit.faultAt("mender a skill ^10 hours 1;", 2);
        Kit.faultAt("mender a skill 1 hours ^0;", 2);
        Kit.faultAt("mender a skill 1 hours ^25;", 2);
        String four = Kit.mender("a", 1, 1) + Kit.mender("b", 1, 1) + Kit.mender("c", 1, 1) + Kit.mender("d", 1, 1);
        Kit.whole(four, 4);
        Kit.faultAt(four + "^" + Kit.mender("e", 1, 1), 5);
    }

    @Says(at = "Terms I", text = "trial NAME is TEST (a TRIAL; 5 TRIALS)")
    static void trials() {
        String five = "trial a is all;trial b is all;trial c is all;trial d is all;trial e is all;";
        Kit.whole(five, 5);
        Kit.due("five", Kit.of(five).has(2), 5);
        Kit.faultAt(five + "^trial f is all;", 5);
        // the fifth is not mixed up with what stands by itself
        for (String stands : new String[] {"stands all;", "stands not all;"}) {
            MendedThings x = Kit.of(five.replace("e is all", "e is not all") + stands + Kit.thing("f", 1, 1, 1));
            x.forge(0);
            Kit.due("the fifth", x.trial(4, 0), 0);
            Kit.due("the fourth", x.trial(3, 0), 1);
            Kit.due(stands, x.thing(0, 8), stands.contains("not") ? 0 : 1);
        }
    }

    @Says(at = "Terms I", text = "stands TEST, falls TEST, takes SUM, fine SUM, first SUM (one each)")
    static void oneEach() {
        String all = "stands all;falls all;takes 1;fine 1;first 1;";
        Kit.whole(all, 5);
        for (String again : all.split(";")) {
            Kit.faultAt(all + "^" + again + ";", 5);
        }
    }

    @Says(at = "Terms I", text = "cat N (0 .. 100; the last one counts, 0 without)")
    static void cat() {
        Kit.whole("cat 0;cat 100;", 2);
        Kit.faultAt("cat ^101;", 2);
        Kit.due("the last one, 0", Kit.of(A + "cat 100;cat 0;").chance(20), 0);
        Kit.due("the last one, 100", Kit.of(A + "cat 0;cat 100;").chance(20), 20);
        Kit.due("without", Kit.of(A).chance(20), 0);
        MendedThings x = Kit.of(A + "cat 100;");
        for (int k = 0; k < 3; k++) {
            Kit.island(x, A);
            Kit.due("without, behind one with", x.chance(20), 0);
            Kit.island(x, A + "cat 100;");
            Kit.due("with, behind one without", x.chance(20), 20);
            Kit.island(x, A + "cat 100");
        }
    }

    @Says(at = "Terms I", text = "SUM SIGN SUM, SIGN < or > or = .")
    static void signs() {
        String[] tests = {"1<2", "2<2", "3<2", "1>2", "2>2", "3>2", "1=2", "2=2", "3=2", "0-1<0", "0>0-1", "0-1=0-1"};
        boolean[] want = {true, false, false, false, false, true, false, true, false, true, true, true};
        for (int k = 0; k < tests.length; k++) {
            holds(tests[k], want[k]);
        }
        Kit.faultAt("falls 1<^=2;", 1);
        Kit.faultAt("falls 1=^=2;", 1);
        Kit.faultAt("falls 1^!=2;", 1);
        Kit.faultAt("falls 1<2^<3;", 1);
        Kit.faultAt("falls 1^;", 1);
        Kit.faultAt("falls 1=^;", 1);
    }

    @Says(at = "Terms I", text = "PART: N (1 to 4 digits)")
    static void digits() {
        sum("0", 0);
        sum("9", 9);
        sum("9999", 9999);
        sum("0007", 7);
        sum("0000", 0);
        Kit.whole("takes 0000;fine 9999;", 2);
        Kit.faultAt("takes 0000^0;", 1);
        Kit.faultAt("takes 9999^9;", 1);
    }

    @Says(at = "Terms I", text = "in stands, trials: glue; in takes, fine: skill.")
    static void wherePartsMayBe() {
        Kit.whole("stands glue>1;trial r is glue>1;takes skill;fine skill;", 4);
        Kit.faultAt("falls ^glue>1;", 1);
        Kit.faultAt("takes ^glue;", 1);
        Kit.faultAt("fine ^glue;", 1);
        Kit.faultAt("first ^glue;", 1);
        Kit.faultAt("stands ^skill>1;", 1);
        Kit.faultAt("trial r is ^skill>1;", 1);
        Kit.faultAt("falls ^skill>1;", 1);
        Kit.faultAt("first ^skill;", 1);
        Kit.faultAt("stands 1=1;takes ^glue;", 1);
        Kit.faultAt("takes skill;stands ^skill=1;", 1);
    }

    @Says(at = "Terms I", text = "how fine it was mended last, 0 if never")
    static void glueIfNever() {
        MendedThings x = Kit.of(A + Kit.mender("m", 7, 1) + Kit.mender("n", 3, 1) + "trial r is glue = 0;");
        Kit.due("never", x.trial(0, 0), 1);
        x.strike(0);
        Kit.due("broken, but never mended", x.thing(0, 6), 0);
        x.mend(0, 0);
        Kit.due("once", x.thing(0, 6), 7);
        Kit.due("once", x.trial(0, 0), 0);
        x.strike(0);
        Kit.due("broken again, as it was mended last", x.thing(0, 6), 7);
        x.mend(0, 1);
        Kit.due("the last one counts", x.thing(0, 6), 3);
    }

    @Says(at = "Terms I", text = "All from the left on")
    static void fromTheLeft() {
        sum("9-5-3", 1);
        sum("100/10/5", 2);
        sum("7/2*2", 6);
        sum("2*7/2", 7);
        sum("2-3+4", 3);
        sum("9999*9999/9999*9999", 1000000 / 9999 * 9999);
        holds("not all and not all or all", true);
        holds("all or all and not all", true);
    }

    @Says(at = "Terms I", text = "/ gives the greatest whole number not above, by 0 it gives 0")
    static void division() {
        sum("7/2", 3);
        sum("(0-7)/2", -4);
        sum("7/(0-2)", -4);
        sum("(0-7)/(0-2)", 3);
        sum("(0-6)/2", -3);
        sum("(0-1)/9999", -1);
        sum("0/5", 0);
        sum("0/(0-5)", 0);
        sum("worth/0", 0);
        sum("(0-worth)/0", 0);
        sum("0/0", 0);
        sum("5/use", 0);
        sum("(0-1000*1000)/(0-1)", 1000000);
    }

    @Says(at = "Terms I", text = "each sum, difference, product above 10 to the 6 is that, below -10 to the 6 likewise")
    static void limits() {
        sum("1000*999+999", 999999);
        sum("1000*999+1000", 1000000);
        sum("1000*999+1001", 1000000);
        sum("0-1000*999-999", -999999);
        sum("0-1000*999-1000", -1000000);
        sum("0-1000*999-1001", -1000000);
        sum("1000*1000", 1000000);
        sum("1001*1000", 1000000);
        sum("(0-1000)*1000", -1000000);
        sum("(0-1001)*1000", -1000000);
        sum("(0-9999)*(0-9999)", 1000000);
        sum("9999*9999-1", 999999);
        sum("1-9999*9999*9999", -999999);
        sum("1000*1000*1000*1000*1000*1000*1000*1000", 1000000);
        sum("(0-1000)*1000*1000*1000*1000*1000*1000*1000", -1000000);
        sum("1000*1000+1-1", 999999);
        sum("0-1000*1000-1+1", -999999);
        sum("1000*1000-(0-1000*1000)", 1000000);
        holds("9999*9999=1000*1000", true);
    }

    @Says(at = "Terms I", text = "min ( SUM , SUM ) ; max ( SUM , SUM )")
    static void minMax() {
        sum("min(3,4)", 3);
        sum("min(4,3)", 3);
        sum("min(3,3)", 3);
        sum("min(0,0-1)", -1);
        sum("max(3,4)", 4);
        sum("max(4,3)", 4);
        sum("max(0,0-1)", 0);
        sum("max(0-1000*1000,0-999*1000)", -999000);
        sum("min(worth,max(1,2)+3)*2", 10);
        Kit.faultAt("takes min(1^);", 1);
        Kit.faultAt("takes min(1,2^,3);", 1);
        Kit.faultAt("takes max(^);", 1);
        Kit.faultAt("takes max ^1;", 1);
    }

    @Says(at = "Terms I", text = "Without: stands is mends > 0, falls never, takes is 4, fine is skill, first is use.")
    static void without() {
        MendedThings x = Kit.of(Kit.thing("a", 9, 1, 9) + Kit.thing("b", 1, 2, 9) + Kit.thing("c", 1, 3, 9) + Kit.mender("m", 7, 4));
        Kit.due("falls never", x.days(100), 0);
        Kit.due("takes is 4", x.takes(0, 0), 4);
        Kit.due("fine is skill", x.fine(0, 0), 7);
        x.forge(2);
        Kit.due("never mended does not stand", x.thing(2, 8), 0);
        x.strike(0);
        x.strike(1);
        x.days(1);
        Kit.due("first is use", x.later(0, 1), 1);
        Kit.due("mended once stands", x.thing(1, 8), 1);
        x.mend(0, 0);
        Kit.due("as fine as the skill", x.thing(0, 6), 7);
    }

    // ---- Terms I: names, words, blanks

    @Says(at = "Terms I", text = "NAMES: 1 to 6 letters, no OWN WORD, unlike ones (of all sorts).")
    static void names() {
        MendedThings x = Kit.of("thing z worth 1 use 1 frail 1;mender zzzzzz skill 1 hours 1;trial zz is all;");
        Kit.due("one letter", x.letter(0, 0, 0) * 100 + x.letter(0, 0, 1), 2600);
        Kit.due("six letters", x.letter(1, 0, 5), 26);
        Kit.faultAt("thing ^= worth 1 use 1 frail 1;", 1);
        Kit.faultAt("thing zzzzzz^z worth 1 use 1 frail 1;", 1);
        String[] sorts = {A, "mender a skill 1 hours 1;", "trial a is all;"};
        for (String one : sorts) {
            for (String other : sorts) {
                int at = other.indexOf(" a") + 1;
                Kit.faultAt(one + other.substring(0, at) + "^" + other.substring(at), 3);
            }
        }
        Kit.whole(A + "thing aa worth 1 use 1 frail 1;thing b worth 1 use 1 frail 1;", 3);
        Kit.whole("thing abcdef worth 1 use 1 frail 1;thing abcdeg worth 1 use 1 frail 1;", 2);
    }

    @Says(at = "Terms I", text = "OWN WORDS: thing, worth, use, frail, mender, skill, hours, trial, is, stands, falls, takes, fine, first, cat,"
        + " breaks, mends, day, glue, number, forged, last, or, and, not, all, min, max.")
    static void ownWords() {
        for (String word : OWN) {
            Kit.faultAt("thing ^" + word + " worth 1 use 1 frail 1;", 1);
            Kit.faultAt("mender ^" + word + " skill 1 hours 1;", 1);
            Kit.faultAt("trial ^" + word + " is all;", 1);
            if (word.length() < 6) {
                Kit.whole("thing " + word + "x worth 1 use 1 frail 1;mender x" + word + " skill 1 hours 1;", 2);
            }
        }
        Kit.whole("thing often worth 1 use 1 frail 1;thing total worth 1 use 1 frail 1;", 2);
        Kit.whole("mender most skill 1 hours 1;trial least is all;", 2);
    }

    @Says(at = "Terms I", text = "Blanks (10, 32) are where one likes (words and numbers side by side need one).")
    static void blanks() {
        Kit.whole(" \n thing\na \n worth\n1 use 1 frail 1 \n ; \n", 1);
        Kit.whole("takes(1+2)*min(3,4)-max(5,6)/7;falls[1<2]and[not[2>1]]or 1=1;", 2);
        Kit.whole("takes ( 1 + 2 ) * min\n( 3\n, 4 ) ;", 1);
        Kit.faultAt("cat^5;", 1);
        Kit.faultAt("falls 1=1^or all;", 1);
        Kit.faultAt("falls all or^5=5;", 1);
        Kit.faultAt("thing a^5 worth 1;", 1);
        Kit.faultAt("cat^\t5;", 1);
        Kit.faultAt("cat^\r5;", 1);
        Kit.faultAt("cat^\0005;", 1);
        Kit.faultAt("cat^\u000b5;", 1);
        Kit.faultAt("cat^!5;", 1);
        Kit.faultAt("cat^\u00a05;", 1);
        Kit.faultAt("cat 5^\t;", 1);
    }

    // ---- Terms I: faults

    @Says(at = "Terms I", text = "FAULTS, the first along the text")
    static void firstAlong() {
        Kit.faultAt("cat ^101;thing thing", 2);
        Kit.faultAt("thing ^thing worth 100", 1);
        Kit.faultAt(A + "thing ^a worth 100", 3);
        Kit.faultAt(Kit.things(8) + "^thing a worth 100", 5);
        Kit.faultAt("takes ((((((^((x;", 4);
        Kit.faultAt("takes 1;^takes 12345;", 5);
        Kit.faultAt("takes 1234^5;takes 1;", 1);
    }

    @Says(at = "Terms I", text = "1 the first byte with which no such text goes on (words and numbers whole, at their first byte")
    static void wholeWords() {
        Kit.faultAt("^things a worth 1 use 1 frail 1;", 1);
        Kit.faultAt("^thin a worth 1 use 1 frail 1;", 1);
        Kit.faultAt("thing a ^worths 1 use 1 frail 1;", 1);
        Kit.faultAt("thing a worth 1 ^user 1 frail 1;", 1);
        Kit.faultAt("thing a worth 1 ^234 frail 1;", 1);
        Kit.faultAt("thing a worth 1 ^23456 frail 1;", 1);
        Kit.faultAt("thing a worth ^use 1 frail 1;", 1);
        Kit.faultAt("takes ^worthy;", 1);
        Kit.faultAt("takes ^unknown;", 1);
        Kit.faultAt("falls ^alls;", 1);
        Kit.faultAt("^1;", 1);
        Kit.faultAt("^;", 1);
        Kit.faultAt("cat 1;^;", 1);
        Kit.faultAt("cat 1 ^cat 2;", 1);
        Kit.faultAt("^Thing a worth 1 use 1 frail 1;", 1);
        Kit.faultAt("thing a ^{worth 1 use 1 frail 1;", 1);
        Kit.faultAt("thing a ^`worth 1 use 1 frail 1;", 1);
        Kit.faultAt("cat ^/5;", 1);
        Kit.faultAt("cat ^:5;", 1);
        Kit.faultAt("^\u00ff", 1);
        Kit.faultAt("^\0", 1);
        // at the end of a tape that is full
        for (String word : new String[] {"t", "thin", "things", "5", "!"}) {
            Kit.faultAt(" ".repeat(1600 - word.length()) + "^" + word, 1);
        }
    }

    @Says(at = "Terms I", text = "where a NAME is asked, an OWN WORD so, a 7th letter at itself")
    static void nameTooLong() {
        Kit.whole("thing abcdef worth 1 use 1 frail 1;", 1);
        Kit.faultAt("thing abcdef^g worth 1 use 1 frail 1;", 1);
        Kit.faultAt("thing abcdef^ghijkl worth 1 use 1 frail 1;", 1);
        Kit.faultAt("mender abcdef^g skill 1 hours 1;", 1);
        Kit.faultAt("trial abcdef^g is all;", 1);
        Kit.faultAt("thing forged^s worth 1 use 1 frail 1;", 1);
        Kit.faultAt("thing ^forged worth 1 use 1 frail 1;", 1);
        Kit.faultAt("thing abcdef worth 1 use 1 frail 1;thing abcdef^g worth", 1);
        Kit.faultAt("thing ^5 worth 1 use 1 frail 1;", 1);
    }

    @Says(at = "Terms I", text = "where a number is asked, a 5th digit at itself")
    static void fifthDigit() {
        Kit.faultAt("thing a worth 0000^1 use 1 frail 1;", 1);
        Kit.faultAt("thing a worth 1 use 0000^1 frail 1;", 1);
        Kit.faultAt("thing a worth 1 use 1 frail 0000^1;", 1);
        Kit.faultAt("mender a skill 0000^1 hours 1;", 1);
        Kit.faultAt("mender a skill 1 hours 0000^1;", 1);
        Kit.faultAt("cat 0000^123;", 1);
        Kit.faultAt("takes 1234^5;", 1);
        Kit.faultAt("falls 1=1234^5;", 1);
        Kit.faultAt("takes min(1,1234^567);", 1);
        Kit.faultAt("takes 1+1234^5;", 1);
        Kit.faultAt("takes 1*1234^5;", 1);
        Kit.faultAt("trial r is all or 1234^5=1;", 1);
        Kit.faultAt("trial r is all and 1234^5=1;", 1);
        Kit.whole("cat 0099;takes 1234;", 2);
    }

    @Says(at = "Terms I", text = "at the text's length, if it ends too soon)")
    static void endsTooSoon() {
        String[] starts = {"thing", "thing ", "thing a", "thing a worth", "thing a worth 1", "thing a worth 1 use 1 frail 1",
            "mender", "mender a skill 1 hours 1 \n", "trial", "trial r is", "trial r is all", "stands", "stands 1", "stands 1<",
            "stands 1<2", "stands [all", "stands not", "stands all or", "stands all and ", "takes", "takes 1+", "takes 1*", "takes (1",
            "takes min", "takes min(", "takes min(1", "takes min(1,", "takes min(1,2", "fine", "first", "cat", "cat 5", "cat 5;cat  "};
        for (String start : starts) {
            Kit.faultAt(start + "^", 1);
            Kit.faultAt(" ".repeat(1600 - start.length()) + start + "^", 1);
        }
    }

    @Says(at = "Terms I", text = "2 a number that can't be, at it")
    static void numberThatCannotBe() {
        Kit.faultAt("thing a worth ^100 use 1 frail 1;", 2);
        Kit.faultAt("thing a worth  \n ^9999;", 2);
        Kit.faultAt("thing a worth ^0100 use 1 frail 1;", 2);
        Kit.faultAt("mender a skill 1 hours ^0000;", 2);
        Kit.faultAt("cat ^101", 2);
        Kit.whole("thing a worth 0099 use 0000 frail 0009;", 1);
        Kit.whole("takes 9999;", 1);
    }

    @Says(at = "Terms I", text = "3 a NAME that is there already, at it")
    static void nameThatIsThere() {
        Kit.faultAt(A + "thing  \n ^a worth 1 use 1 frail 1;", 3);
        Kit.faultAt(Kit.things(7) + "thing ^g", 3);
        Kit.faultAt(Kit.things(7) + "mender ^d", 3);
        Kit.faultAt("trial r is all;trial s is all;thing ^s", 3);
        Kit.faultAt(A + "thing ^a!", 3);
        MendedThings x = Kit.of(A);
        Kit.due("of this text alone", Kit.island(x, A), 1);
    }

    @Says(at = "Terms I", text = "4 the 7th of ( [ not that is open at once (not until its FACT ends), at it")
    static void seventhOpen() {
        Kit.whole("takes ((((((1))))));", 1);
        Kit.faultAt("takes ((((((^(1)))))));", 4);
        Kit.whole("falls [[[[[[all]]]]]];", 1);
        Kit.faultAt("falls [[[[[[^[all]]]]]]];", 4);
        Kit.whole("falls not not not not not not all;", 1);
        Kit.faultAt("falls not not not not not not ^not all;", 4);
        Kit.whole("falls not[not[((1))=1]];", 1);
        Kit.faultAt("falls not[not[((^(1)))=1]];", 4);
        Kit.whole("takes min(max(min(max(min(max(1,2),3),4),5),6),7);", 1);
        Kit.faultAt("takes min(max(min(max(min(max(min^(1,2),3),4),5),6),7),8);", 4);
        // what has ended is open no more
        Kit.whole("takes ((((((1))))))+((((((1))))))*((((((1))))));", 1);
        Kit.whole("falls not not not not not not all and not not not not not not all or not not not not not not all;", 1);
        Kit.whole("falls [[[[[[all]]]]]]or[[[[[[all]]]]]];", 1);
        Kit.whole("takes min((((((1))))),(((((2))))));", 1);
        Kit.faultAt("takes min((((((1))))),(((((^(2)))))));", 4);
        // its FACT goes on to its end, behind the sign
        Kit.faultAt("falls not not not not not not 1=^(1);", 4);
        Kit.whole("falls not not not not not 1=(1);", 1);
        Kit.whole("falls not not not not not not 1=1 and (1)=1;", 1);
        // in each statement, and behind each sign
        for (String rule : new String[] {"trial r is", "stands", "falls"}) {
            Kit.whole(rule + " [[[[[[all]]]]]];", 1);
            Kit.faultAt(rule + " [[[[[[^[all]]]]]]];", 4);
            Kit.faultAt(rule + " all or [[[[[[^[all]]]]]]];", 4);
            Kit.faultAt(rule + " all and not not not not not not ^not all;", 4);
            Kit.faultAt(rule + " 1<((((((^(1)))))));", 4);
        }
        for (String rule : new String[] {"takes", "fine", "first"}) {
            Kit.whole(rule + " ((((((1))))));", 1);
            Kit.faultAt(rule + " ((((((^(1)))))));", 4);
            Kit.faultAt(rule + " 1+((((((^(1)))))));", 4);
            Kit.faultAt(rule + " 1*((((((^(1)))))));", 4);
        }
    }

    @Says(at = "Terms I", text = "5 one too many of a kind (a second stands, falls, takes, fine, first, too), an 81st STATEMENT (whatever stands"
        + " there), at its first byte.")
    static void tooMany() {
        Kit.faultAt(Kit.things(8) + " \n ^thing", 5);
        Kit.faultAt(Kit.mender("a", 1, 1) + Kit.mender("b", 1, 1) + Kit.mender("c", 1, 1) + Kit.mender("d", 1, 1) + "^mender 5", 5);
        Kit.faultAt("trial a is all;trial b is all;trial c is all;trial d is all;trial e is all; ^trial a", 5);
        for (String rule : new String[] {"stands all;", "falls all;", "takes 1;", "fine 1;", "first 1;"}) {
            Kit.faultAt(rule + "cat 1; ^" + rule, 5);
            Kit.faultAt(rule + "^" + rule.substring(0, rule.indexOf(' ')), 5);
        }
        String eighty = "cat 1;".repeat(80);
        for (String there : new String[] {"cat 1;", "x", "5", ";", "!", "\t", "thing a worth 100", "\0"}) {
            Kit.faultAt(eighty + " \n ^" + there, 5);
        }
        Kit.faultAt("cat 1;".repeat(79) + "^;", 1);
    }

    // ---- Terms IV: questions

    @Says(at = "Terms IV", text = "A QUESTION is a text, of all THINGS: first TEST, last TEST (the first, the last THING for which it holds), often TEST"
        + " (for how many)")
    static void firstLastOften() {
        MendedThings x = Kit.of(Kit.things(8));
        Kit.due("first of all", Kit.ask(x, "first all"), 0);
        Kit.due("last of all", Kit.ask(x, "last all"), 7);
        Kit.due("often of all", Kit.ask(x, "often all"), 8);
        Kit.due("first of one", Kit.ask(x, "first number = 7"), 7);
        Kit.due("last of one", Kit.ask(x, "last number = 0"), 0);
        Kit.due("often of one", Kit.ask(x, "often number = 7"), 1);
        Kit.due("first of none", Kit.ask(x, "first not all"), NONE);
        Kit.due("last of none", Kit.ask(x, "last not all"), NONE);
        Kit.due("often of none", Kit.ask(x, "often not all"), 0);
    }

    @Says(at = "Terms IV", text = "total SUM (of all together), most SUM, least SUM (the greatest, the least of all; 0 without THINGS)")
    static void totalMostLeast() {
        MendedThings none = new MendedThings();
        for (String asked : new String[] {"total 5", "most 5", "least 5", "most 0-5", "least 0-5", "total 1000*1000"}) {
            Kit.due(asked, Kit.ask(none, asked), 0);
            Kit.due(asked + " without a fault", none.fault(0), 0);
        }
        MendedThings x = Kit.of(Kit.thing("a", 1, 9, 0) + Kit.thing("b", 5, 5, 0) + Kit.thing("c", 9, 1, 0));
        Kit.due("all below 0, the greatest", Kit.ask(x, "most 0-worth"), -1);
        Kit.due("all below 0, the least", Kit.ask(x, "least 0-worth"), -9);
        Kit.due("all above 0, the least", Kit.ask(x, "least worth"), 1);
        Kit.due("all above 0, the greatest", Kit.ask(x, "most use"), 9);
        Kit.due("above 10 to the 6, together", Kit.ask(x, "total 1000*1000"), 3000000);
        Kit.due("below -10 to the 6, together", Kit.ask(x, "total 0-1000*1000"), -3000000);
    }

    @Says(at = "Terms IV", text = "TEST, SUM as in I, but PART: N; number; worth; use; frail; breaks; mends; glue; forged; day; is PART")
    static void questionParts() {
        for (String part : new String[] {"0", "9999", "number", "worth", "use", "frail", "breaks", "mends", "glue", "forged", "day", "is 0"}) {
            Kit.askFaultAt("total " + part, 0);
            Kit.askFaultAt("often 1=" + part, 0);
        }
        for (String part : new String[] {"skill", "hours", "thing", "mender", "trial", "stands", "cat", "last", "often", "all", "x"}) {
            Kit.askFaultAt("total ^" + part, 1);
            Kit.askFaultAt("often 1=^" + part, 1);
        }
        Kit.faultAt("trial r is ^number=1;", 1);
        Kit.faultAt("stands ^forged=1;", 1);
        Kit.faultAt("stands ^is 1=1;", 1);
    }

    @Says(at = "Terms IV", text = "1 if it is FORGED, else 0; 1 if the TRIAL of that number holds for it, 0 of those that there are not.")
    static void isPart() {
        MendedThings x = Kit.of(Kit.things(3) + "trial p is all;trial q is glue > 49;");
        x.forge(1);
        Kit.due("forged", Kit.ask(x, "total forged * (number + 1)"), 2);
        Kit.due("trial 0", Kit.ask(x, "total is 0"), 3);
        Kit.due("trial 1", Kit.ask(x, "total is 1 * (number + 1)"), 2);
        for (String none : new String[] {"2", "3", "4", "5", "31", "32", "33", "64", "9999", "(0-1)", "(0-32)", "(0-1000*1000)",
            "(1000*1000)"}) {
            Kit.due("there is no trial " + none, Kit.ask(x, "total is " + none), 0);
            Kit.due("nor a fault", x.fault(0), 0);
        }
        Kit.due("of a trial's answer", Kit.ask(x, "total is is 1"), 2 + 1);
        x = Kit.of(A + "trial p is all;trial q is all;trial r is all;trial s is all;trial t is all;");
        Kit.due("the fifth", Kit.ask(x, "total is 4"), 1);
        Kit.due("no sixth", Kit.ask(x, "total is 5"), 0);
    }

    @Says(at = "Terms IV", text = "Its FAULTS: 1 as in I (an unknown word at its first byte; what stands behind it, too)")
    static void questionFaults() {
        Kit.askFaultAt("^", 1);
        Kit.askFaultAt(" \n^", 1);
        Kit.askFaultAt("first^", 1);
        Kit.askFaultAt("first 5^", 1);
        Kit.askFaultAt("total 5+^", 1);
        Kit.askFaultAt("^unknown all", 1);
        Kit.askFaultAt("^firsts all", 1);
        Kit.askFaultAt("^cat 5", 1);
        Kit.askFaultAt("^5", 1);
        Kit.askFaultAt("total ^unknown", 1);
        Kit.askFaultAt("total ^abcdefghij", 1);
        Kit.askFaultAt("total 1234^5", 1);
        Kit.askFaultAt("total 5 ^unknown", 1);
        Kit.askFaultAt("total 5 ^6", 1);
        Kit.askFaultAt("total 5^;", 1);
        Kit.askFaultAt("total 5 ^total 5", 1);
        Kit.askFaultAt("first all ^all", 1);
        Kit.askFaultAt("first all ^\0", 1);
        Kit.askFaultAt("total 5^)", 1);
        Kit.askFaultAt(" total\n5 \n", 0);
    }

    @Says(at = "Terms IV", text = "4 the 7th of ( [ not is that is open at once (not until its FACT, is until its PART ends), at it.")
    static void questionSeventhOpen() {
        Kit.askFaultAt("total is is is is is is 0", 0);
        Kit.askFaultAt("total is is is is is is ^is 0", 4);
        Kit.askFaultAt("total is is is is is is 0+is is is is is is 0*is is is is is is 0", 0);
        Kit.askFaultAt("total is is is is is is 0+is is is is is is ^is 0", 4);
        Kit.askFaultAt("total ((((((1))))))", 0);
        Kit.askFaultAt("total ((((((^(1)))))))", 4);
        Kit.askFaultAt("total is(is(is(1)))", 0);
        Kit.askFaultAt("total is(is(is(^is 1)))", 4);
        Kit.askFaultAt("often not[not[is(1)=1]]", 0);
        Kit.askFaultAt("often not[not[is(^is 1)=1]]", 4);
        Kit.askFaultAt("often not not not not not not all", 0);
        Kit.askFaultAt("often not not not not not not ^not all", 4);
        Kit.askFaultAt("often [[[[[[all]]]]]]", 0);
        Kit.askFaultAt("often [[[[[[^[all]]]]]]]", 4);
        Kit.askFaultAt("often not not not not not is 1=is 1", 0);
        Kit.askFaultAt("often not not not not not not 1=^is 1", 4);
        Kit.askFaultAt("often not not not not not not 1=1 or is 1=1", 0);
    }

    // ---- Terms IV: images

    @Says(at = "Terms IV", text = "AN IMAGE: DAY (two bytes, the higher first)")
    static void imageOfTheDay() {
        MendedThings x = new MendedThings();
        for (int day : new int[] {0, 1, 255, 256, 257, 511, 512, 767, 768, 998, 999}) {
            Kit.toDay(x, day);
            x.image();
            Kit.due("DAY " + day + ", the higher", x.octet(0), day / 256);
            Kit.due("DAY " + day + ", the lower", x.octet(1), day % 256);
        }
    }

    @Says(at = "Terms IV", text = "for each THING 0 .. 2, how often it broke, was mended, glue, 1 if it is FORGED, else 0")
    static void imageOfThings() {
        MendedThings x = Kit.of(Kit.things(4) + Kit.mender("m", 7, 1));
        x.strike(1);
        x.mend(1, 0);
        x.strike(1);
        x.forge(2);
        x.strike(3);
        x.mend(3, 0);
        int[] want = Kit.sealed(0, 0, 0, 0, 0, 0, 0, 1, 2, 1, 7, 0, 2, 0, 0, 50, 1, 2, 1, 1, 7, 0);
        Kit.due("bytes", x.image(), want.length);
        for (int k = 0; k < want.length; k++) {
            Kit.due("byte " + k, x.octet(k), want[k]);
        }
        Kit.due("no things", new MendedThings().image(), 3);
        Kit.due("eight things", Kit.of(Kit.things(8)).image(), 43);
    }

    @Says(at = "Terms IV", text = "last a byte: all ahead from 113 on, c = (3 c + it) mod 251.")
    static void imageSeal() {
        MendedThings x = new MendedThings();
        // 113, 339 + 0 is 88, 264 + day is 13 + day, so DAY 237 gives 250 and DAY 238 gives 0
        int[][] want = {{0, 13}, {1, 14}, {237, 250}, {238, 0}, {239, 1}, {255, 17}};
        for (int[] pair : want) {
            Kit.toDay(x, pair[0]);
            x.image();
            Kit.due("DAY " + pair[0], x.octet(2), pair[1]);
        }
        for (int last = 0; last < 256; last++) {
            MendedThings y = new MendedThings();
            Kit.due("last byte " + last, Kit.on(y, 0, 0, last), last == 13);
        }
    }
}
