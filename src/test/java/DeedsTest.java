/** Promises 19 to 23: what took tells, the deeds that fit, quiet sayings, cloaks. */
public final class DeedsTest {
    private static final Check CHECK = new Check("deeds");
    private static final int BAD = -1, FULL = -3, NONE = -4;
    private static final int[] NO_RELATIVES = {-1, 2, 6, Integer.MAX_VALUE, Integer.MIN_VALUE};

    public static void main(String[] args) {
        telling();
        tellingOfTenNoons();
        forgetting();
        fitting();
        fittingByKinds();
        fittingUndone();
        fittingMended();
        fittingTenDays();
        quiet();
        cloaks();
        CHECK.close();
    }

    private static void telling() {
        LastToAsk x = Check.laid("r0,9,0;r0,5,0;s1,1;");
        CHECK.due("took(1, 0): there was no noon", x.took(1, 0), BAD);
        x.noon();
        CHECK.due("took(2, 0): there was one", x.took(2, 0), BAD);
        CHECK.due("took(0, 0)", x.took(0, 0), BAD);
        CHECK.due("took(-1, 0)", x.took(-1, 0), BAD);
        CHECK.due("took(MIN, 0)", x.took(Integer.MIN_VALUE, 0), BAD);
        for (int i : NO_RELATIVES) {
            CHECK.due("took(1, " + i + ")", x.took(1, i), BAD);
        }
        CHECK.due("nothing told", x.count(6), 0);
        for (int k = 1; k <= 6; k++) {
            CHECK.due("took(1, 1)", x.took(1, 1), k);
            CHECK.due("count(6)", x.count(6), k);
        }
        CHECK.due("a seventh", x.took(1, 1), FULL);
        CHECK.due("a seventh that is BAD too", x.took(2, 1), BAD);
        CHECK.due("count(6)", x.count(6), 6);
        x.undo();
        CHECK.due("it stays, the noon undone", x.count(6), 6);
    }

    private static void tellingOfTenNoons() {
        LastToAsk x = Check.laid("r0,9,0;r0,5,0;s1,1;");
        Check.noons(x, 12);
        CHECK.due("took(10, 0)", x.took(10, 0), 1);
        CHECK.due("took(11, 0)", x.took(11, 0), BAD);
        CHECK.due("took(MAX, 0)", x.took(Integer.MAX_VALUE, 0), BAD);
    }

    private static void forgetting() {
        LastToAsk x = Check.laid("r0,9,0;r0,5,0;s1,1;");
        x.noon();
        x.took(1, 1);
        x.took(1, 0);
        CHECK.due("deeds(0) by both", x.deeds(0), 0);
        CHECK.due("forget()", x.forget(), 2);
        CHECK.due("forget() again", x.forget(), 0);
        CHECK.due("count(6)", x.count(6), 0);
        CHECK.due("deeds(0) by none", x.deeds(0), 64);
        CHECK.due("took(1, 1) behind forget()", x.took(1, 1), 1);
    }

    private static void fitting() {
        LastToAsk x = Check.laid("r0,9,0;r0,5,0;s6,1;s8,1;d1;");
        CHECK.due("deeds(0) of nothing told", x.deeds(0), 64);
        CHECK.due("deeds(1) of nothing told", x.deeds(1), 0);
        CHECK.due("deeds(2)", x.deeds(2), BAD);
        CHECK.due("deeds(-1)", x.deeds(-1), BAD);
        CHECK.due("deeds(MAX)", x.deeds(Integer.MAX_VALUE), BAD);
        CHECK.due("deeds(MIN)", x.deeds(Integer.MIN_VALUE), BAD);
        CHECK.due("say(0, 0)", x.say(0, 0), 0);
        x.noon();
        x.took(1, 1);
        // topics 2 or 4 are of the deed: 64 - 16
        CHECK.due("deeds(0): it was asking", x.deeds(0), 48);
        CHECK.due("deeds(1): it was asking", x.deeds(1), 2);
        x.say(1, 1);
        x.noon();
        x.took(2, 0);
        // topic 8 as well
        CHECK.due("deeds(0): that too", x.deeds(0), 24);
        CHECK.due("deeds(1): that too", x.deeds(1), 10);
        x.took(2, 1);
        CHECK.due("deeds(0): both cannot be", x.deeds(0), 0);
        CHECK.due("deeds(1): both cannot be", x.deeds(1), NONE);
        x.forget();
        x.took(2, 1);
        CHECK.due("deeds(0): the second was not asking", x.deeds(0), 24);
        CHECK.due("deeds(1): the second was not asking", x.deeds(1), 2);
        x.forget();
        x.took(1, 0);
        CHECK.due("deeds(0): never 0's behind the first", x.deeds(0), 0);
    }

    private static void fittingByKinds() {
        LastToAsk x = Check.laid("r1,90,0;r2,80,0;r3,70,0;r4,60,0;s48,0;s1,0;s2,1;h2;");
        x.say(0, 0);
        x.noon();
        x.took(1, 1);
        CHECK.due("deeds(0) by a hint", x.deeds(0), 48);
        CHECK.due("deeds(1) by a hint", x.deeds(1), 16);
        x.say(1, 1);
        x.noon();
        x.took(2, 2);
        CHECK.due("deeds(0) by a cousin", x.deeds(0), 24);
        CHECK.due("deeds(1) by a cousin", x.deeds(1), 17);
        x.say(2, 2);
        x.say(3, 2);
        x.noon();
        x.took(3, 3);
        CHECK.due("deeds(0) by a child: any deed", x.deeds(0), 24);
        x.say(3, 2);
        x.noon();
        x.took(4, 3);
        CHECK.due("deeds(0) by one abroad: any deed", x.deeds(0), 24);
        x.say(0, 1);
        x.noon();
        x.took(5, 3);
        CHECK.due("deeds(0) by too few topics for a hint: any deed", x.deeds(0), 24);
    }

    private static void fittingUndone() {
        LastToAsk x = Check.laid("r0,9,0;r0,5,0;s1,1;d1;");
        x.say(0, 0);
        x.noon();
        x.took(1, 1);
        CHECK.due("deeds(0)", x.deeds(0), 32);
        x.undo();
        CHECK.due("deeds(0): the noon would come as it did", x.deeds(0), 32);
        x.undo();
        CHECK.due("deeds(0): nothing is said any more", x.deeds(0), 0);
        x.say(1, 0);
        CHECK.due("deeds(0): another one asks", x.deeds(0), 0);
        x.say(0, 0);
        CHECK.due("deeds(0): both", x.deeds(0), 0);
    }

    private static void fittingMended() {
        LastToAsk x = Check.laid("r0,9,0;r0,5,0;s1,1;s2,1;d1;");
        CHECK.due("say(0, 0)", x.say(0, 0), 1);
        x.mend(2);
        CHECK.due("noon()", x.noon(), 1);
        CHECK.due("say(1, 1)", x.say(1, 1), 1);
        x.mend(4);
        CHECK.due("noon()", x.noon(), 0);
        x.took(1, 1);
        x.took(2, 0);
        CHECK.due("deeds(0): never mended", x.deeds(0), 16);
        CHECK.due("deeds(1): never mended", x.deeds(1), 3);
        CHECK.due("the deed stays as it is mended", x.count(2), 4);
    }

    private static void fittingTenDays() {
        LastToAsk x = Check.laid("r0,9,0;r0,5,0;s1,1;s2,0;d1;");
        Check.noons(x, 9);
        x.say(0, 1);
        x.say(0, 1);
        x.say(0, 1);
        x.say(0, 0);
        CHECK.due("noon() of day 9", x.noon(), 1);
        x.took(10, 1);
        CHECK.due("deeds(0): day 9 counts, four times said", x.deeds(0), 32);
        for (int k = 0; k < 4; k++) {
            x.say(1, 0);
        }
        CHECK.due("deeds(0): day 10 does not", x.deeds(0), 32);
        CHECK.due("noon() of day 10", x.noon(), 0);
        CHECK.due("deeds(1)", x.deeds(1), 1);
        x.took(10, 0);
        CHECK.due("deeds(0): both cannot be", x.deeds(0), 0);
    }

    private static void quiet() {
        LastToAsk x = Check.laid("r0,9,0;r0,5,0;s1,1;s1,0;s2,1;s2,0;s3,0;d1;");
        CHECK.due("quiet() of plain ones", x.quiet(), 30);
        x.mend(0);
        CHECK.due("quiet() of no deed", x.quiet(), 31);
        LastToAsk y = Check.laid("r4,9,0;r1,5,0;s1,1;s1,0;s2,1;s2,0;s3,0;d1;h2;");
        CHECK.due("quiet() of an aunt", y.quiet(), 14);
        LastToAsk z = Check.laid("r4,9,0;r2,5,0;s1,1;s1,0;s2,1;s2,0;s3,0;d1;h2;");
        CHECK.due("quiet() of a cousin", z.quiet(), 12);
        LastToAsk w = Check.laid("r3,9,0;r4,5,0;s1,1;s1,0;s2,1;s2,0;s3,0;d1;h2;");
        CHECK.due("quiet() of a child", w.quiet(), 26);
        LastToAsk v = Check.laid("r4,9,0;r4,5,0;s1,1;s1,1;s1,1;s1,1;s1,1;s1,1;s1,1;s1,1;d1;");
        CHECK.due("quiet() of those abroad", v.quiet(), 255);
        LastToAsk u = Check.laid("r2,9,0;r2,5,0;s1,1;");
        CHECK.due("quiet(): none", u.quiet(), 0);
    }

    private static void cloak(LastToAsk x, int i, int which, int many) {
        CHECK.due("cloak(" + i + ", 0)", x.cloak(i, 0), which);
        CHECK.due("cloak(" + i + ", 1)", x.cloak(i, 1), many);
    }

    private static void cloaks() {
        LastToAsk x = Check.laid("r0,9,0;r1,9,0;r2,9,0;r3,9,0;r4,9,0;s8,1;s6,0;s3,0;s7,1;s15,0;d7;h3;");
        cloak(x, 0, 4, 3);
        cloak(x, 1, 1, 2);
        cloak(x, 2, 0, 0);
        cloak(x, 3, 4, 3);
        cloak(x, 4, 3, 3);
        x.mend(8);
        cloak(x, 0, 4, 1);
        cloak(x, 1, 1, 0);
        cloak(x, 2, 1, 0);
        cloak(x, 4, 0, 1);
        int[][] wrong = {{5, 0}, {-1, 1}, {0, 2}, {0, -1}, {6, 0}, {Integer.MAX_VALUE, 0},
            {0, Integer.MIN_VALUE}};
        for (int[] w : wrong) {
            CHECK.due("cloak(" + w[0] + ", " + w[1] + ")", x.cloak(w[0], w[1]), BAD);
        }
        LastToAsk y = Check.laid("r3,9,0;r2,5,0;s1,1;s2,1;d3;");
        cloak(y, 0, NONE, NONE);
        cloak(y, 1, NONE, NONE);
        CHECK.due("cloak(0, 2) where there is none", y.cloak(0, 2), BAD);
    }
}
