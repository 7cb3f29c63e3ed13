/** Promises 24 to 29: when all know, chances, years by draws, what is kept, counts. */
public final class YearsTest {
    private static final Check CHECK = new Check("years");
    private static final int BAD = -1, NO = -2, FULL = -3, NONE = -4;

    public static void main(String[] args) {
        allKnowing();
        chances();
        chancesBehindAskings();
        chancesWrong();
        years();
        yearsBehindAskings();
        yearsWrong();
        keeping();
        keepingAndUndoing();
        keepingWhatWasSaid();
        counts();
        CHECK.close();
    }

    private static void allKnowing() {
        LastToAsk x = Check.laid("r0,9,3;r2,5,9;r4,1,5;s1,1;");
        CHECK.due("allKnow() at first", x.allKnow(), 0);
        x.say(0, 0);
        CHECK.due("allKnow(): 1 waits for 9 days", x.allKnow(), 9);
        Check.noons(x, 4);
        CHECK.due("allKnow() four days later", x.allKnow(), 5);
        x.say(1, 0);
        CHECK.due("allKnow(): 2 waits for 5 days, 1 knows of himself", x.allKnow(), 5);
        x.noon();
        CHECK.due("allKnow() a day later", x.allKnow(), 4);
        Check.noons(x, 4);
        CHECK.due("allKnow() on day 9", x.allKnow(), 0);
        x.say(1, 0);
        CHECK.due("allKnow(): a newer asking", x.allKnow(), 5);
        LastToAsk y = Check.laid("r0,9,0;r0,5,4;s1,1;");
        y.say(1, 0);
        CHECK.due("allKnow(): mails of 0 days", y.allKnow(), 0);
        y.say(0, 0);
        CHECK.due("allKnow(): mails of 4 days", y.allKnow(), 4);
        LastToAsk z = Check.laid("r0,0,9;r0,0,9;s1,1;");
        z.say(1, 0);
        CHECK.due("allKnow(): asked on day 0 as told by A", z.allKnow(), 0);
    }

    private static void chance(LastToAsk x, int n, int x10, long above, long below) {
        CHECK.due("lasts(" + n + ", " + x10 + ", 0)", x.lasts(n, x10, 0), above);
        CHECK.due("lasts(" + n + ", " + x10 + ", 1)", x.lasts(n, x10, 1), below);
    }

    private static void chances() {
        LastToAsk x = Check.laid("r0,90,0;r3,9,0;r3,5,0;s1,1;");
        chance(x, 0, 0, 1, 1);
        chance(x, 0, 10, 1, 1);
        chance(x, 1, 0, 1, 1);
        chance(x, 1, 10, 0, 1);
        chance(x, 1, 3, 7, 10);
        chance(x, 2, 5, 1, 4);
        chance(x, 2, 4, 9, 25);
        chance(x, 9, 9, 1, 1000000000);
        chance(x, 9, 7, 19683, 1000000000);
        x.say(0, 0);
        x.noon();
        CHECK.due("it is 1's", x.count(5), 2);
        // by the child 1 asking on the first day it is 2's, and later 2's or 0's
        chance(x, 1, 3, 7, 10);
        chance(x, 3, 10, 0, 1);
        x.say(1, 0);
        x.noon();
        CHECK.due("it is 2's", x.count(5), 3);
        // the child 1 asks and it stays 2's
        chance(x, 5, 5, 1, 1);
        chance(x, 9, 10, 1, 1);
        LastToAsk y = Check.laid("r0,90,0;r0,9,0;s1,1;");
        y.say(1, 0);
        y.noon();
        CHECK.due("it is 0's", y.count(5), 1);
        // without a child 0 asks, and it is 1's
        chance(y, 2, 2, 16, 25);
    }

    private static void chancesBehindAskings() {
        LastToAsk x = Check.laid("r0,50,0;r3,60,0;r0,5,0;s1,1;");
        x.say(2, 0);
        // nobody's now; at noon it is somebody's, whatever the child does
        chance(x, 1, 5, 0, 1);
        chance(x, 0, 5, 1, 1);
        x.noon();
        CHECK.due("it is 1's", x.count(5), 2);
        x.say(2, 0);
        // it stays 1's if he asks on neither day
        chance(x, 1, 2, 4, 5);
        chance(x, 2, 2, 16, 25);
        LastToAsk y = Check.laid("r0,50,0;r3,60,0;r0,5,0;s1,1;");
        y.say(1, 0);
        y.noon();
        CHECK.due("it is 0's", y.count(5), 1);
        y.say(0, 0);
        // without the child today it is 2's, as with him; then he never brings it to 0
        chance(y, 1, 5, 0, 1);
        chance(y, 3, 5, 0, 1);
        LastToAsk z = Check.laid("r0,2,0;r3,9,0;s1,1;");
        z.say(1, 0);
        z.noon();
        CHECK.due("it is 0's", z.count(5), 1);
        z.say(0, 0);
        // today 1's if the child is silent, 0's (both at 0) if he asks; then 0's by each asking
        chance(z, 1, 4, 2, 5);
        chance(z, 2, 4, 16, 25);
    }

    private static void chancesWrong() {
        LastToAsk x = new LastToAsk();
        int[][] wrong = {{-1, 1, 0}, {10, 1, 0}, {1, -1, 0}, {1, 11, 0}, {1, 1, 2}, {1, 1, -1},
            {Integer.MAX_VALUE, 1, 0}, {1, Integer.MIN_VALUE, 0}, {1, 1, Integer.MAX_VALUE}};
        for (int[] w : wrong) {
            CHECK.due("lasts(" + w[0] + ", " + w[1] + ", " + w[2] + ")", x.lasts(w[0], w[1], w[2]), BAD);
        }
    }

    /** The first draws as the document tells them, by long figures: x, x times x modulo 65521 by 8. */
    private static long draw(int z, int k) {
        long x = 7919L * z + 6151L * k + 1;
        return x * x % 65521 / 8;
    }

    private static void years() {
        LastToAsk x = Check.laid("r0,9,0;r0,5,0;s1,1;");
        // by z 0 the first draw is 1 by 8, cut: 0, so that 0 says 0 on this day
        CHECK.due("year(0, 1, 0)", x.year(0, 1, 0), 1);
        CHECK.due("year(0, 1, 1): from nobody to 1", x.year(0, 1, 1), 1);
        for (int z = 0; z < 60; z++) {
            int lastZero = -9;
            int lastOne = -5;
            int owner = NONE;
            int changes = 0;
            int n = z % 99 + 1;
            for (int k = 0; k < n; k++) {
                long draw = draw(z * 166, k);
                if (draw / 64 % 3 == 0) {
                    if (draw % 2 == 0) {
                        lastZero = k;
                    } else {
                        lastOne = k;
                    }
                    int next = lastOne < lastZero ? 1 : 0;
                    changes += next == owner ? 0 : 1;
                    owner = next;
                }
            }
            CHECK.due("year(" + z * 166 + ", " + n + ", 0)", x.year(z * 166, n, 0), owner);
            CHECK.due("year(" + z * 166 + ", " + n + ", 1)", x.year(z * 166, n, 1), changes);
        }
    }

    private static void yearsBehindAskings() {
        LastToAsk x = Check.laid("r0,9,0;r0,5,0;s1,1;d1;");
        x.mend(0);
        CHECK.due("year(0, 9, 0): nothing is asking", x.year(0, 9, 0), NONE);
        CHECK.due("year(0, 9, 1): nothing is asking", x.year(0, 9, 1), 0);
        x.mend(1);
        x.say(0, 0);
        x.mend(0);
        CHECK.due("year(0, 1, 0): what was said today", x.year(0, 1, 0), 1);
        CHECK.due("year(0, 1, 1): what was said today", x.year(0, 1, 1), 1);
        x.noon();
        CHECK.due("year(0, 99, 0): it stays", x.year(0, 99, 0), 1);
        CHECK.due("year(0, 99, 1): it stays", x.year(0, 99, 1), 0);
        CHECK.due("count(4)", x.count(4), 1);
    }

    private static void yearsWrong() {
        LastToAsk x = new LastToAsk();
        int[][] wrong = {{-1, 1, 0}, {10000, 1, 0}, {0, 0, 0}, {0, 100, 0}, {0, 1, 2}, {0, 1, -1},
            {Integer.MAX_VALUE, 1, 0}, {0, Integer.MIN_VALUE, 0}, {0, 1, Integer.MAX_VALUE}};
        for (int[] w : wrong) {
            CHECK.due("year(" + w[0] + ", " + w[1] + ", " + w[2] + ")", x.year(w[0], w[1], w[2]), BAD);
        }
        CHECK.due("year(9999, 99, 0)", x.year(9999, 99, 0) != BAD ? 1 : 0, 1);
    }

    private static void keeping() {
        LastToAsk x = Check.laid("r0,9,0;r0,5,2;s1,1;s2,0;d1;");
        CHECK.due("back() of nothing", x.back(), NO);
        x.say(0, 0);
        CHECK.due("keep()", x.keep(), 1);
        x.noon();
        x.mend(7);
        x.say(1, 0);
        CHECK.due("keep() again", x.keep(), 2);
        String full = Check.standing(x);
        CHECK.due("a third", x.keep(), FULL);
        CHECK.due("standing", Check.standing(x), full);
        Check.noons(x, 3);
        CHECK.due("took(1, 1)", x.took(1, 1), 1);
        x.write('d');
        CHECK.due("back()", x.back(), 1);
        CHECK.due("standing, but took and the text", Check.standing(x),
                "2 2 7 3 1 2 1 0 1 28 1 0 1 0 0 1 0 0 2 1 1 ");
        CHECK.due("knows(1, 0) as kept", x.knows(1, 0), 10);
        CHECK.due("deeds(0): what was said is as kept", x.deeds(0), 32);
        CHECK.due("undo() behind back()", x.undo(), NO);
        CHECK.due("keep() behind back()", x.keep(), 2);
        x.say(0, 1);
        CHECK.due("back()", x.back(), 1);
        CHECK.due("back() to the first", x.back(), 0);
        CHECK.due("standing", Check.standing(x), "2 2 1 3 0 0 1 0 0 28 1 0 0 0 0 1 0 5 2 0 0 ");
        CHECK.due("back() of none left", x.back(), NO);
        CHECK.due("noon()", x.noon(), 1);
    }

    private static void keepingAndUndoing() {
        LastToAsk x = Check.laid("r0,9,0;r0,5,2;s1,1;s2,0;d1;");
        x.say(0, 0);
        x.keep();
        CHECK.due("keep() is not undone", x.undo(), 0);
        CHECK.due("undone: what was said", x.count(10), 0);
        CHECK.due("kept still", x.count(8), 1);
        x.noon();
        CHECK.due("back() behind undo()", x.back(), 0);
        CHECK.due("said, as kept", x.count(10), 1);
        CHECK.due("the day, as kept", x.count(4), 0);
        CHECK.due("count(7)", x.count(7), 0);
        x.mend(3);
        CHECK.due("undo() of what came behind back()", x.undo(), 0);
        CHECK.due("said, still", x.count(10), 1);
    }

    /** What was said is kept too, though other things were said instead of it since. */
    private static void keepingWhatWasSaid() {
        LastToAsk x = Check.laid("r0,9,0;r0,5,2;s1,1;s2,1;d3;");
        x.say(0, 0);
        x.say(0, 1);
        x.keep();
        x.undo();
        x.undo();
        x.say(1, 1);
        x.say(1, 1);
        CHECK.due("noon()", x.noon(), 0);
        CHECK.due("took(1, 1)", x.took(1, 1), 1);
        CHECK.due("deeds(0): it was 1 who asked", x.deeds(0), 0);
        x.back();
        CHECK.due("deeds(0): it was 0 who asked", x.deeds(0), 48);
        CHECK.due("deeds(1): it was 0 who asked", x.deeds(1), 1);
    }

    private static void counts() {
        LastToAsk x = Check.laid("r0,9,0;r0,5,2;r1,3,3;s1,1;s2,0;d9;h5;");
        x.say(0, 0);
        x.noon();
        x.noon();
        x.say(0, 1);
        x.say(0, 1);
        x.took(2, 1);
        x.keep();
        int[] due = {3, 2, 9, 5, 2, 2, 1, 5, 1, 37, 2};
        for (int what = 0; what <= 10; what++) {
            CHECK.due("count(" + what + ")", x.count(what), due[what]);
        }
        int[] wrong = {-1, 11, Integer.MAX_VALUE, Integer.MIN_VALUE};
        for (int what : wrong) {
            CHECK.due("count(" + what + ")", x.count(what), BAD);
        }
    }
}
