/** The edges of terms 3 and of promises 14 to 18: whose it would be, what makes it one's, turns. */
final class WhoseEdges {
    private static final Check CHECK = EdgesTest.CHECK;
    private static final int BAD = -1, NONE = -4;
    private static final int[] NO_RELATIVE = {-1, -2, 3, 6, 31, 32, 33, Integer.MAX_VALUE, Integer.MIN_VALUE};

    private WhoseEdges() { }

    static void all() {
        ago();
        heirs();
        among();
        thinks();
        fewest();
        besidesThoseWhoDid();
        becomesOrStays();
        lowestSet();
        turnsOfSomeDays();
        turnsRound();
        turnsForHimself();
        turnsOfHigherAndLower();
        turnsAlike();
        heirCall();
        amongCall();
        thinksCall();
        makeCall();
        byTurnsCall();
    }

    private static LastToAsk three(int first, int second, int third) {
        return Check.laid("r0," + first + ",0;r0," + second + ",0;r0," + third + ",0;s1,1;s1,0;s1,1;s1,1;");
    }

    private static void ago() {
        CHECK.by("AGO: how many days ago one asked last, now.");
        LastToAsk x = three(0, 99, 7);
        CHECK.due("A 0", x.relative(0, 1), 0);
        CHECK.due("A 99", x.relative(1, 1), 99);
        x.say(2, 1);
        CHECK.due("not asking", x.relative(2, 1), 7);
        x.say(2, 0);
        CHECK.due("asking", x.relative(2, 1), 0);
        x.noon();
        CHECK.due("A 0, a day later", x.relative(0, 1), 1);
        CHECK.due("A 99, a day later", x.relative(1, 1), 100);
        CHECK.due("asked a day ago", x.relative(2, 1), 1);
        x.undo();
        x.undo();
        CHECK.due("the asking undone", x.relative(2, 1), 7);
    }

    private static void heirs(LastToAsk x, int first, int second, int third) {
        CHECK.due("heir(0)", x.heir(0), first);
        CHECK.due("heir(1)", x.heir(1), second);
        CHECK.due("heir(2)", x.heir(2), third);
    }

    private static void heirs() {
        CHECK.by("HEIR, if one asks now: whose it would be at noon.");
        heirs(three(3, 9, 9), 1, 2, 1);
        heirs(three(9, 9, 9), 1, 0, 0);
        heirs(three(9, 9, 3), 1, 0, 0);
        heirs(three(0, 0, 0), 0, 0, 0);
        heirs(three(0, 0, 5), 2, 2, 0);
        LastToAsk x = three(3, 9, 5);
        x.say(1, 0);
        heirs(x, 2, 2, 0);
        x.say(0, 0);
        heirs(x, 2, 2, 0);
        x.say(2, 0);
        heirs(x, 0, 0, 0);
        CHECK.due("whose it is stays", x.count(5), 0);
        CHECK.due("AGO stays", x.relative(1, 1), 0);
    }

    private static void among() {
        CHECK.by("AMONG: RELATIVES (bits) that are HEIRS, if one or another one asks now.");
        CHECK.due("all alike", three(9, 9, 9).among(), 3);
        CHECK.due("the first two", three(9, 9, 3).among(), 3);
        CHECK.due("the last two", three(3, 9, 9).among(), 6);
        CHECK.due("the first and the last", three(9, 3, 8).among(), 5);
        CHECK.due("one alone: A 0", three(0, 0, 0).among(), 1);
        CHECK.due("who asks himself, if all others are at AGO 0", three(0, 0, 5).among(), 5);
        LastToAsk x = three(3, 9, 5);
        x.say(1, 0);
        x.say(0, 0);
        x.say(2, 0);
        CHECK.due("all asked", x.among(), 1);
        LastToAsk y = Check.laid("r0,1,0;r0,2,0;r0,3,0;r0,4,0;r0,8,0;r0,9,0;s1,1;");
        CHECK.due("the last two of six", y.among(), 48);
    }

    private static void thinks() {
        CHECK.by("THINKS: whom one takes for him who has not asked for longest, by what he KNOWS "
                + "(of several the lowest).");
        CHECK.due("all alike", three(9, 9, 9).thinks(2), 0);
        CHECK.due("the last two", three(3, 9, 9).thinks(2), 1);
        CHECK.due("himself", three(3, 9, 5).thinks(1), 1);
        CHECK.due("the last", three(3, 5, 9).thinks(0), 2);
        LastToAsk x = Check.laid("r0,9,0;r0,9,9;r0,8,1;s1,1;");
        x.say(0, 0);
        CHECK.due("0 knows of himself", x.thinks(0), 1);
        CHECK.due("1 knows nothing yet", x.thinks(1), 0);
        CHECK.due("2 knows nothing yet", x.thinks(2), 0);
        x.say(1, 0);
        CHECK.due("0 knows today", x.thinks(0), 2);
        CHECK.due("1 knows of himself, not of 0", x.thinks(1), 0);
        x.noon();
        CHECK.due("2 knows a day later: himself", x.thinks(2), 2);
        Check.noons(x, 8);
        CHECK.due("1 knows nine days later", x.thinks(1), 2);
    }

    private static void makes(LastToAsk x, int first, int second, int third) {
        CHECK.due("make(0)", x.make(0), first);
        CHECK.due("make(1)", x.make(1), second);
        CHECK.due("make(2)", x.make(2), third);
    }

    private static void fewest() {
        CHECK.by("MAKE for one: the fewest RELATIVES who have to ask today");
        makes(three(3, 9, 5), 6, 1, 2);
        makes(three(3, 5, 9), 6, 4, 1);
        makes(three(9, 5, 3), 2, 1, 3);
        makes(three(5, 9, 3), 2, 1, 3);
        LastToAsk x = Check.laid("r0,1,0;r0,2,0;r0,3,0;r0,4,0;r0,5,0;r0,6,0;s1,1;");
        CHECK.due("five of six", x.make(0), 62);
        CHECK.due("four of six", x.make(1), 60);
        CHECK.due("one of six", x.make(5), 1);
    }

    private static void besidesThoseWhoDid() {
        CHECK.by("(besides those who did),");
        LastToAsk x = three(3, 9, 5);
        x.say(1, 0);
        makes(x, 4, NONE, 0);
        x.say(2, 0);
        makes(x, 0, NONE, NONE);
        x.say(0, 0);
        makes(x, 0, NONE, NONE);
        LastToAsk y = three(3, 9, 5);
        y.say(0, 0);
        makes(y, 6, 0, 2);
        y.noon();
        makes(y, 6, 1, 2);
    }

    private static void becomesOrStays() {
        CHECK.by("so that THE FORTUNE becomes his, or stays so by one who asks, at noon,");
        LastToAsk x = three(3, 9, 5);
        x.say(1, 0);
        CHECK.due("it is 2's", x.noon(), 2);
        CHECK.due("it stays 2's, but by one who asks", x.make(2), 1);
        x.say(1, 1);
        CHECK.due("nothing asking is said", x.make(2), 1);
        x.say(1, 0);
        CHECK.due("it stays 2's by who asked", x.make(2), 0);
        LastToAsk y = three(9, 3, 5);
        y.say(1, 0);
        CHECK.due("it is 0's", y.noon(), 0);
        CHECK.due("it stays 0's, but not by himself", y.make(0), 2);
        LastToAsk z = three(0, 0, 0);
        CHECK.due("it becomes 0's by himself", z.make(0), 1);
    }

    private static void lowestSet() {
        CHECK.by("of several sets the lowest, as bits; none.");
        CHECK.due("1 or 2", three(9, 5, 5).make(0), 2);
        CHECK.due("0 or 2", three(5, 9, 5).make(1), 1);
        CHECK.due("0 or 1", three(5, 5, 9).make(2), 1);
        LastToAsk x = three(5, 9, 9);
        makes(x, 6, 1, 2);
        makes(three(0, 0, 5), 4, NONE, 1);
        makes(three(0, 0, 0), 1, NONE, NONE);
        makes(three(5, 0, 0), 1, NONE, NONE);
        makes(three(0, 5, 0), 2, 1, NONE);
    }

    private static void turns(LastToAsk x, int n, int whose, int asks) {
        CHECK.due("byTurns(" + n + ", 0)", x.byTurns(n, 0), whose);
        CHECK.due("byTurns(" + n + ", 1)", x.byTurns(n, 1), asks);
    }

    private static void turnsOfSomeDays() {
        CHECK.by("By TURNS, n (1 to 6) days from now on (this one the first), on each of which one may ask or not, "
                + "nobody else:");
        LastToAsk x = three(50, 9, 20);
        x.say(1, 0);
        for (int n = 1; n <= 6; n++) {
            // who asked today already asked: it is 0's at noon
            turns(x, n, 0, 0);
        }
        turns(x, 0, BAD, BAD);
        turns(x, 7, BAD, BAD);
        x.noon();
        x.say(0, 0);
        for (int n = 1; n <= 6; n++) {
            turns(x, n, 2, 0);
        }
        CHECK.due("nothing is asked by it", x.relative(2, 4), 0);
        CHECK.due("no day passes by it", x.count(4), 1);
    }

    private static void turnsRound() {
        CHECK.by("RELATIVE 0, then 1, .., round:");
        LastToAsk x = Check.laid("r0,1,0;r0,0,0;s1,1;");
        for (int n = 1; n <= 6; n++) {
            // the third, the fourth, .. day is another one's again; who had to ask did so on the first one
            turns(x, n, 0, 1);
        }
        LastToAsk y = Check.laid("r0,0,0;r0,1,0;s1,1;");
        for (int n = 1; n <= 6; n++) {
            // by 1 asking today it would be 0's, but today it is 0's turn
            turns(y, n, NONE, 0);
        }
    }

    private static void turnsForHimself() {
        CHECK.by("each looks ahead, and would best have THE FORTUNE behind the last noon himself,");
        turns(three(7, 0, 0), 1, 0, 1);
        turns(three(0, 0, 0), 6, 0, 1);
        turns(three(7, 0, 1), 1, NONE, 0);
        LastToAsk x = three(50, 9, 20);
        x.say(1, 0);
        x.noon();
        // it is 0's, who would lose it by asking
        for (int n = 1; n <= 6; n++) {
            turns(x, n, 0, 0);
        }
    }

    private static void turnsOfHigherAndLower() {
        CHECK.by("next that nobody has it or one of a higher number, last that one of a lower one has it;");
        for (int n = 1; n <= 6; n++) {
            // by each asking it would be another one's for good: 1 and 2 would make it a lower one's
            turns(three(9, 5, 3), n, NONE, 0);
            turns(three(3, 5, 9), n, NONE, 0);
            turns(three(9, 9, 9), n, NONE, 0);
        }
    }

    private static void turnsAlike() {
        CHECK.by("of what is alike for him he does not ask: whose it is; whether RELATIVE 0 asks on the first one.");
        LastToAsk x = three(3, 9, 5);
        // by asking it would be 1's instead of nobody's, for 0 alike
        turns(x, 1, NONE, 0);
        x.say(0, 0);
        // it is 1's at noon, whether 0 asks once more or not
        turns(x, 1, 1, 0);
        x.noon();
        turns(x, 6, 1, 0);
        LastToAsk y = three(5, 0, 0);
        y.say(1, 0);
        y.say(2, 0);
        // it is 0's at noon by silence already
        turns(y, 1, 0, 0);
    }

    private static void heirCall() {
        CHECK.by("`int heir(int i)`: HEIR. BAD.");
        LastToAsk x = three(3, 9, 5);
        for (int i : NO_RELATIVE) {
            CHECK.due("heir(" + i + ")", x.heir(i), BAD);
        }
        heirs(x, 1, 2, 1);
    }

    private static void amongCall() {
        CHECK.by("`int among()`: AMONG, as bits.");
        LastToAsk x = Check.laid("r0,1,0;r0,9,0;s1,1;");
        CHECK.due("both of two", x.among(), 3);
        CHECK.due("one of two", Check.laid("r0,1,0;r0,0,0;s1,1;").among(), 1);
    }

    private static void thinksCall() {
        CHECK.by("`int thinks(int i)`: THINKS. BAD.");
        LastToAsk x = three(3, 9, 5);
        for (int i : NO_RELATIVE) {
            CHECK.due("thinks(" + i + ")", x.thinks(i), BAD);
        }
        CHECK.due("thinks(2)", x.thinks(2), 1);
    }

    private static void makeCall() {
        CHECK.by("`int make(int i)`: MAKE, as bits. NONE; BAD.");
        LastToAsk x = three(0, 0, 0);
        for (int i : NO_RELATIVE) {
            CHECK.due("make(" + i + ")", x.make(i), BAD);
        }
        makes(x, 1, NONE, NONE);
    }

    private static void byTurnsCall() {
        CHECK.by("`int byTurns(int n, int what)`: By TURNS: who (what = 0; NONE), 1 if the first one asks (1). BAD.");
        LastToAsk x = three(3, 9, 5);
        int[] far = {-1, 0, 7, 8, 31, 32, 33, 64, Integer.MAX_VALUE, Integer.MIN_VALUE};
        for (int n : far) {
            turns(x, n, BAD, BAD);
        }
        int[] what = {-1, 2, 3, Integer.MAX_VALUE, Integer.MIN_VALUE};
        for (int w : what) {
            CHECK.due("byTurns(1, " + w + ")", x.byTurns(1, w), BAD);
        }
        turns(x, 1, NONE, 0);
        turns(x, 6, NONE, 0);
        turns(three(4, 0, 0), 6, 0, 1);
    }
}
