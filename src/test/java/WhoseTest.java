/** Promises 14 to 18: whose it would be, among whom it stays, whom one thinks of, what makes it, turns. */
public final class WhoseTest {
    private static final Check CHECK = new Check("whose");
    private static final int BAD = -1, NONE = -4;
    private static final int[] NO_RELATIVES = {-1, 3, 6, Integer.MAX_VALUE, Integer.MIN_VALUE};

    public static void main(String[] args) {
        heirs();
        heirsBehindAskings();
        thinking();
        making();
        makingBehindAskings();
        turnsOfTwo();
        turnsOfThree();
        turnsBehindAskings();
        turnsWrong();
        nothingChanges();
        CHECK.close();
    }

    private static void heirs() {
        LastToAsk x = Check.laid("r0,3,0;r4,9,0;r0,9,0;s1,1;");
        CHECK.due("heir(0)", x.heir(0), 1);
        CHECK.due("heir(1)", x.heir(1), 2);
        CHECK.due("heir(2)", x.heir(2), 1);
        CHECK.due("among()", x.among(), 6);
        for (int i : NO_RELATIVES) {
            CHECK.due("heir(" + i + ")", x.heir(i), BAD);
        }
        LastToAsk y = Check.laid("r0,8,0;r0,0,0;s1,1;");
        CHECK.due("heir(0): AGO 0 both", y.heir(0), 0);
        CHECK.due("heir(1)", y.heir(1), 0);
        CHECK.due("among() of one", y.among(), 1);
    }

    private static void heirsBehindAskings() {
        LastToAsk x = Check.laid("r0,3,0;r0,9,0;r0,5,0;s1,1;");
        x.say(1, 0);
        CHECK.due("heir(0)", x.heir(0), 2);
        CHECK.due("heir(1) once more", x.heir(1), 2);
        CHECK.due("heir(2)", x.heir(2), 0);
        CHECK.due("among()", x.among(), 5);
        x.say(0, 0);
        x.say(2, 0);
        CHECK.due("heir(2), all asked", x.heir(2), 0);
        CHECK.due("among(), all asked", x.among(), 1);
        x.noon();
        x.noon();
        x.say(0, 0);
        CHECK.due("heir(1) two days later", x.heir(1), 2);
        CHECK.due("among() two days later", x.among(), 6);
    }

    private static void thinking() {
        LastToAsk x = Check.laid("r0,9,0;r0,9,5;r0,7,1;s1,1;");
        CHECK.due("thinks(2), of several the lowest", x.thinks(2), 0);
        x.say(0, 0);
        CHECK.due("thinks(0) of himself he knows", x.thinks(0), 1);
        CHECK.due("thinks(1): no mail yet", x.thinks(1), 0);
        CHECK.due("thinks(2): no mail yet", x.thinks(2), 0);
        x.noon();
        CHECK.due("thinks(2): the mail is there", x.thinks(2), 1);
        CHECK.due("thinks(1): not for him", x.thinks(1), 0);
        x.say(1, 0);
        CHECK.due("thinks(1): still", x.thinks(1), 0);
        CHECK.due("thinks(0): mails of 0 days", x.thinks(0), 2);
        Check.noons(x, 3);
        CHECK.due("thinks(1) on day 4", x.thinks(1), 0);
        x.noon();
        CHECK.due("thinks(1) on day 5", x.thinks(1), 2);
        for (int i : NO_RELATIVES) {
            CHECK.due("thinks(" + i + ")", x.thinks(i), BAD);
        }
    }

    private static void making() {
        LastToAsk x = Check.laid("r0,3,0;r4,9,0;r0,5,0;s1,1;");
        CHECK.due("make(1): any one asks", x.make(1), 1);
        CHECK.due("make(2): 1 asks", x.make(2), 2);
        CHECK.due("make(0): 1 and 2 ask", x.make(0), 6);
        for (int i : NO_RELATIVES) {
            CHECK.due("make(" + i + ")", x.make(i), BAD);
        }
        LastToAsk y = Check.laid("r0,0,0;r0,0,0;r0,5,0;s1,1;");
        CHECK.due("make(0)", y.make(0), 4);
        CHECK.due("make(1): 0 is always as long", y.make(1), NONE);
        CHECK.due("make(2)", y.make(2), 1);
        LastToAsk z = Check.laid("r0,50,0;r0,5,0;r0,5,0;s1,1;");
        CHECK.due("make(0): not himself if another does", z.make(0), 2);
        CHECK.due("make(1)", z.make(1), 1);
        CHECK.due("make(2): 0 and 1", z.make(2), 3);
    }

    private static void makingBehindAskings() {
        LastToAsk x = Check.laid("r0,3,0;r0,9,0;r0,5,0;s1,1;");
        x.say(1, 0);
        CHECK.due("make(2): by who asked", x.make(2), 0);
        CHECK.due("make(0): 2 asks besides", x.make(0), 4);
        CHECK.due("make(1): he asked himself", x.make(1), NONE);
        CHECK.due("noon()", x.noon(), 2);
        CHECK.due("make(2): stays by one who asks", x.make(2), 1);
        CHECK.due("make(1) a day later", x.make(1), 5);
    }

    private static void turns(LastToAsk x, int n, int whose, int asks) {
        CHECK.due("byTurns(" + n + ", 0)", x.byTurns(n, 0), whose);
        CHECK.due("byTurns(" + n + ", 1)", x.byTurns(n, 1), asks);
    }

    private static void turnsOfTwo() {
        LastToAsk x = Check.laid("r0,3,0;r0,9,0;s1,1;");
        // nobody's is as good for 0 as 1's; 1 would have to let 0 have it
        turns(x, 1, NONE, 0);
        turns(x, 2, NONE, 0);
        // the third day is 0's again: by asking it would be 1's, which is as good for him as nobody's
        turns(x, 3, NONE, 0);
        LastToAsk y = Check.laid("r0,1,0;r0,0,0;s1,1;");
        // by 0 asking today both are at AGO 0, so it would be his, the lower one's
        turns(y, 1, 0, 1);
        // 1 asks, and it is 0's all the same: he does not
        turns(y, 2, 0, 1);
    }

    private static void turnsOfThree() {
        LastToAsk x = Check.laid("r0,90,0;r0,9,0;r0,50,0;s1,1;");
        // 0 asks: 2's; 0 silent: nobody's: alike
        turns(x, 1, NONE, 0);
        // 0 silent and 1 asks: 0's, the worst for 1; 0 asks and 1 silent: 2's
        turns(x, 2, NONE, 0);
        turns(x, 3, NONE, 0);
        LastToAsk y = Check.laid("r4,9,0;r0,90,0;r0,50,0;s1,1;");
        // 1 asks on the second day: 2's; it is alike for him; on the third 2 would make it 1's, the worst
        turns(y, 1, NONE, 0);
        turns(y, 3, NONE, 0);
        LastToAsk z = Check.laid("r0,50,0;r0,9,0;s1,1;");
        z.say(1, 0);
        z.noon();
        CHECK.due("it is 0's", z.count(5), 1);
        // 0 has it and is silent; 1 asking would leave it 0's
        turns(z, 1, 0, 0);
        turns(z, 2, 0, 0);
        LastToAsk w = Check.laid("r0,9,0;r0,50,0;s1,1;");
        w.say(0, 0);
        w.noon();
        CHECK.due("it is 1's", w.count(5), 2);
        // 0 asks: 1's still; 1 does not have to ask
        turns(w, 1, 1, 0);
        turns(w, 6, 1, 0);
    }

    private static void turnsBehindAskings() {
        LastToAsk x = Check.laid("r0,50,0;r0,9,0;r0,20,0;s1,1;");
        x.say(1, 0);
        // 0 is silent and it is his at noon
        turns(x, 1, 0, 0);
        LastToAsk y = Check.laid("r0,9,0;r0,50,0;r0,20,0;s1,1;");
        y.say(2, 0);
        // at noon it is 1's, whether 0 asks or not
        turns(y, 1, 1, 0);
        // the second day is 1's, who keeps it by silence
        turns(y, 2, 1, 0);
        LastToAsk z = Check.laid("r0,5,0;r0,2,0;s1,1;");
        z.say(1, 0);
        z.say(0, 0);
        turns(z, 1, 0, 0);
        turns(z, 2, 0, 0);
    }

    private static void turnsWrong() {
        LastToAsk x = new LastToAsk();
        int[][] wrong = {{0, 0}, {7, 0}, {-1, 0}, {1, 2}, {1, -1}, {Integer.MAX_VALUE, 0},
            {Integer.MIN_VALUE, 1}, {1, Integer.MAX_VALUE}, {31, 0}, {32, 0}, {33, 0}};
        for (int[] w : wrong) {
            CHECK.due("byTurns(" + w[0] + ", " + w[1] + ")", x.byTurns(w[0], w[1]), BAD);
        }
    }

    private static void nothingChanges() {
        LastToAsk x = new LastToAsk();
        x.say(0, 0);
        x.noon();
        x.say(1, 1);
        String before = Check.standing(x);
        x.heir(1);
        x.among();
        x.thinks(2);
        x.make(3);
        x.byTurns(6, 0);
        x.byTurns(6, 1);
        x.byTurns(7, 1);
        x.make(9);
        CHECK.due("standing", Check.standing(x), before);
    }
}
