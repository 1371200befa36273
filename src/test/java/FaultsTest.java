/** The faults of islands and questions: their kind and their place (promises 4, 5 and 30). */
public final class FaultsTest {
    private static final String T = "thing a worth 1 use 1 frail 1;";

    public static void main(String[] args) {
        wholeTexts();
        first();
        numbers();
        names();
        nesting();
        tooMany();
        parts();
        questions();
        questionNesting();
        Kit.finish("FaultsTest");
    }

    private static void whole(String text, int statements) {
        Kit.whole(text, statements);
    }

    private static void at(String marked, int kind) {
        Kit.faultAt(marked, kind);
    }

    private static void askedAt(String marked, int kind) {
        Kit.askFaultAt(marked, kind);
    }

    private static void wholeTexts() {
        whole("", 0);
        whole(" \n ", 0);
        whole("thing a worth 0 use 0 frail 0;", 1);
        whole("\nthing\na\nworth 99\nuse 99 frail 9 ; ", 1);
        whole("mender a skill 0 hours 1;mender b skill 9 hours 24;", 2);
        whole("cat 0;cat 100;cat 0100;", 3);
        whole("stands[all];falls[all]or all;takes(1);fine(1)*(2);first min(1,2);", 5);
        whole("thing often worth 1 use 1 frail 1;mender total skill 1 hours 1;trial most is all;trial least is not all;", 4);
        whole("thing things worth 1 use 1 frail 1;", 1);
        whole("takes 9999;", 1);
        whole("stands 1<2 and[2>1]or not 1=1;", 1);
    }

    private static void first() {
        at("^;", 1);
        at("^5", 1);
        at("^Thing a", 1);
        at("^thin a", 1);
        at("^things a", 1);
        at("^often all;", 1);
        at("^last all;", 1);
        at("thing^", 1);
        at("thing ^", 1);
        at("thing ^5", 1);
        at("thing^5", 1);
        at("thing a^", 1);
        at("thing a^1 worth", 1);
        at("thing a ^use 1", 1);
        at("thing a worth ^use", 1);
        at("thing a worth^5", 1);
        at("thing a worth 5^use", 1);
        at("thing a worth 1 use 1 frail 1^", 1);
        at("thing a worth 1 use 1 frail 1  ^", 1);
        at("thing a worth 1 use 1 frail 1 ^:", 1);
        at("thing a worth ^-1", 1);
        at("thing a ^wort", 1);
        at("thing ^A", 1);
        at("thing a^B", 1);
        at(T + "^;", 1);
        at(T + "^\t", 1);
        at("trial r is^", 1);
        at("trial r is ^;", 1);
        at("trial r is 5^;", 1);
        at("trial r is [5^]", 1);
        at("trial r is (^all)", 1);
        at("trial r is 1<2^<3", 1);
        at("trial r is 1<^=2", 1);
        at("trial r is all ^all", 1);
        at("trial r is all and ^;", 1);
        at("trial r is all or ^or all", 1);
        at("trial r is all^=1", 1);
        at("stands ^stands", 1);
        at("takes 1+^;", 1);
        at("takes 1 ^2;", 1);
        at("takes ^-1;", 1);
        at("takes ^all;", 1);
        at("takes ^not 1;", 1);
        at("takes 1^<2;", 1);
        at("takes ^[1];", 1);
        at("takes (1^;", 1);
        at("takes 1^);", 1);
        at("takes min ^1;", 1);
        at("takes min(1^);", 1);
        at("takes min(1,2^,3);", 1);
        at("takes min(1,2^", 1);
        at("takes^5;", 1);
        at("takes 5^worth;", 1);
        at("falls 1<2^and all;", 1);
        at("falls 1<2 and^5<6;", 1);
        at("cat ^;", 1);
        at("cat 5^", 1);
        at("cat 5;^cats 6;", 1);
    }

    private static void numbers() {
        at("thing a worth ^100", 2);
        at("thing a worth ^9999", 2);
        at("thing a worth 9999^9", 1);
        at("thing a worth 0000^0", 1);
        at("thing a worth 1 use ^100", 2);
        at("thing a worth 1 use 1 frail ^10", 2);
        at("mender a skill ^10", 2);
        at("mender a skill 1 hours ^0", 2);
        at("mender a skill 1 hours ^25", 2);
        at("cat ^101;", 2);
        at("takes 1234^5;", 1);
        at("takes 1234^567;", 1);
        at("thing ^12345", 1);
        at("thing a worth ^100use", 2);
    }

    private static void names() {
        String[] own = {"thing", "worth", "use", "frail", "mender", "skill", "hours", "trial", "is", "stands", "falls",
            "takes", "fine", "first", "cat", "breaks", "mends", "day", "glue", "number", "forged", "last", "or", "and", "not",
            "all", "min", "max"};
        for (String word : own) {
            at("thing ^" + word + " worth", 1);
            at("mender ^" + word, 1);
            at("trial ^" + word + " is", 1);
        }
        at("thing abcdef^g", 1);
        at("thing mender^s", 1);
        at("thing abcdef^ghij worth 1", 1);
        at(T + "thing ^a", 3);
        at(T + "mender ^a", 3);
        at(T + "trial ^a", 3);
        at("mender m skill 1 hours 1;thing ^m worth", 3);
        at("trial t is all;mender ^t", 3);
        at("trial t is all;trial ^t", 3);
        at(T + "thing b worth 1 use 1 frail 1;thing ^b", 3);
        whole(T + "thing aa worth 1 use 1 frail 1;", 2);
        at(T + "thing ^a5", 3);
    }

    private static void nesting() {
        at("takes ((((((1))))))^", 1);
        whole("takes ((((((1))))));", 1);
        at("takes ((((((^(1)))))));", 4);
        whole("falls [[[[[[all]]]]]];", 1);
        at("falls [[[[[[^[all]]]]]]];", 4);
        whole("falls not not not not not not all;", 1);
        at("falls not not not not not not ^not all;", 4);
        at("falls not [ not [ not (1+^;", 1);
        whole("falls not [ not [ not (1)=(1) ] ];", 1);
        at("falls not [ not [ not (min^(1,2))=1 ] ];", 4);
        whole("falls not [ not [ not min(1,2)=1 ] ];", 1);
        whole("takes min(min(min(min(min(min(1,2),3),4),5),6),7);", 1);
        at("takes max(max(max(max(max(max(^x", 1);
        at("takes max(max(max(max(max(max(max^(1", 4);
        whole("falls not not not 1=1 and not not not (((1)))=1;", 1);
        at("falls not not not (((^(1)=1;", 4);
        whole("falls not not not not not not 1=1 or not not not not not not 1=1;", 1);
        whole("takes (((1)))+((((((1))))));", 1);
        whole("trial r is [[[[[[1=1]]]]]]and[[[[[[1=1]]]]]];", 1);
    }

    private static void tooMany() {
        StringBuilder things = new StringBuilder();
        for (char c = 'a'; c < 'i'; c++) {
            things.append("thing ").append(c).append(" worth 1 use 1 frail 1;");
        }
        whole(things.toString(), 8);
        at(things + " ^thing 5", 5);
        StringBuilder menders = new StringBuilder();
        for (char c = 'a'; c < 'e'; c++) {
            menders.append("mender ").append(c).append(" skill 1 hours 1;");
        }
        whole(menders.toString(), 4);
        at(menders + "^mender a", 5);
        StringBuilder trials = new StringBuilder();
        for (char c = 'a'; c < 'f'; c++) {
            trials.append("trial ").append(c).append(" is all;");
        }
        whole(trials.toString(), 5);
        at(trials + "^trial", 5);
        at("stands all;^stands", 5);
        at("falls all;cat 1;^falls all;", 5);
        at("takes 1;^takes", 5);
        at("fine 1;^fine", 5);
        at("first 1;^first", 5);
        String cats = "cat 1;".repeat(80);
        whole(cats, 80);
        whole(cats + " \n", 80);
        at(cats + " ^cat 1;", 5);
        at(cats + "^?", 5);
        at(cats + "^;", 5);
        at("cat 1;".repeat(79) + "^?", 1);
    }

    private static void parts() {
        String always = "worth+use+frail+breaks+mends+day";
        whole("stands glue+" + always + ">1;trial r is glue+" + always + ">1;falls " + always + ">1;takes skill+" + always
            + ";fine skill+" + always + ";first " + always + ";", 6);
        at("stands ^skill>1;", 1);
        at("trial r is ^skill>1;", 1);
        at("falls ^glue>1;", 1);
        at("falls ^skill>1;", 1);
        at("takes ^glue;", 1);
        at("fine ^glue;", 1);
        at("first ^glue;", 1);
        at("first ^skill;", 1);
        at("first ^number;", 1);
        at("stands ^forged=1;", 1);
        at("stands ^is 1=1;", 1);
        at("stands ^hours=1;", 1);
        at("stands ^a=1;", 1);
    }

    private static void questions() {
        askedAt("^", 1);
        askedAt("  ^", 1);
        askedAt("^;", 1);
        askedAt("^thing", 1);
        askedAt("^firs all", 1);
        askedAt("first^", 1);
        askedAt("first 5^", 1);
        askedAt("first all^;", 1);
        askedAt("first all ^all", 1);
        askedAt("first 1<2 ^< 3", 1);
        askedAt("total ^all", 1);
        askedAt("total 1^<2", 1);
        askedAt("total 1 ^x", 1);
        askedAt("total ^skill", 1);
        askedAt("total ^hours", 1);
        askedAt("total ^xyz", 1);
        askedAt("total is^", 1);
        askedAt("total is^0", 1);
        askedAt("total^0", 1);
        askedAt("total 1234^5", 1);
        askedAt("total 5^is 1", 1);
        askedAt("total is ^;", 1);
        askedAt("total is 9999", 0);
        askedAt("total is(1)*2", 0);
        askedAt("first is number=1 or[all]", 0);
        askedAt("often is ^all", 1);
        askedAt("^Total 5", 1);
    }

    private static void questionNesting() {
        askedAt("total is is is is is is 0", 0);
        askedAt("total is is is is is is ^is 0", 4);
        askedAt("total ((((((^(1", 4);
        askedAt("total is is is 0+is is is is is is 1", 0);
        askedAt("first not not [is is (1)=1]", 0);
        askedAt("first not not [is is (^(1))=1]", 4);
        askedAt("first not not [is is (^is 1)=1]", 4);
        askedAt("first not not [is is min(^is 1", 4);
        askedAt("first not not [is is is min^(1,2)=1]", 4);
        askedAt("first not not [is is is 1+is is is 2=is is is 3]", 0);
        askedAt("first not not [is is 1+(is is 2)=1]", 0);
    }
}
