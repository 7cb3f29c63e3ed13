/** The edges of terms 2 and of promises 10 to 13: days, what is said on them, noons, mending, undoing. */
final class DayEdges {
    private static final Check CHECK = EdgesTest.CHECK;
    private static final int BAD = -1, NO = -2, FULL = -3, NONE = -4;
    private static final int[] FAR = {-1, -2, 64, 65, Integer.MAX_VALUE, Integer.MIN_VALUE};

    private DayEdges() { }

    static void all() {
        dayZero();
        fourOnADay();
        askedLastToday();
        nobodyAsked();
        whoHasNotAskedForLongest();
        nextDay();
        nobodysAtFirst();
        mendedFromNowOn();
        eachKindUndone();
        lastEightUndone();
        say();
        noon();
        mend();
        undo();
    }

    private static LastToAsk two() {
        return Check.laid("r0,9,0;r0,5,0;s1,1;s1,0;d1;");
    }

    private static void dayZero() {
        CHECK.by("Day 0 is the first one.");
        LastToAsk x = new LastToAsk();
        CHECK.due("the day of a new one", x.count(4), 0);
        x.noon();
        CHECK.due("behind a noon", x.count(4), 1);
        Check.write(x, "r0,9,0;r0,5,0;s1,1;");
        x.lay();
        CHECK.due("the day of what is laid", x.count(4), 0);
    }

    private static void fourOnADay() {
        CHECK.by("4 can be SAID on a day at most;");
        LastToAsk x = two();
        for (int day = 0; day < 12; day++) {
            for (int k = 1; k <= 4; k++) {
                CHECK.due("one of four", x.say(k % 2, k / 2 % 2), 1 - k / 2 % 2);
                CHECK.due("SAID today", x.count(10), k);
            }
            CHECK.due("a fifth that is asking", x.say(0, 0), FULL);
            CHECK.due("a fifth that is not", x.say(0, 1), FULL);
            CHECK.due("SAID today", x.count(10), 4);
            x.undo();
            CHECK.due("three, one undone", x.count(10), 3);
            CHECK.due("the fourth again", x.say(0, 1), 0);
            x.noon();
        }
        LastToAsk y = two();
        Check.say(y, 0, 1, 4);
        CHECK.due("none of four was asking: AGO", y.relative(0, 1), 9);
        y.say(0, 0);
        CHECK.due("a fifth asks not", y.relative(0, 1), 9);
        CHECK.due("a fifth asks not: noon()", y.noon(), NONE);
    }

    private static void askedLastToday() {
        CHECK.by("if one is ASKING, who said it asked last on this day.");
        LastToAsk x = two();
        x.say(0, 1);
        CHECK.due("AGO behind what is not asking", x.relative(0, 1), 9);
        x.say(0, 0);
        CHECK.due("AGO behind an asking", x.relative(0, 1), 0);
        CHECK.due("AGO of the other one", x.relative(1, 1), 5);
        x.say(0, 1);
        CHECK.due("AGO behind what is not asking, asked today", x.relative(0, 1), 0);
        Check.noons(x, 3);
        CHECK.due("AGO three days later", x.relative(0, 1), 3);
        x.say(0, 1);
        CHECK.due("AGO behind what is not asking, three days later", x.relative(0, 1), 3);
        x.say(0, 0);
        CHECK.due("AGO, asked anew", x.relative(0, 1), 0);
    }

    private static void nobodyAsked() {
        CHECK.by("NOON: if anybody asked on this day,");
        LastToAsk x = two();
        CHECK.due("nothing said", x.noon(), NONE);
        Check.say(x, 0, 1, 4);
        CHECK.due("nothing asking said", x.noon(), NONE);
        x.say(0, 0);
        x.undo();
        CHECK.due("the only asking undone", x.noon(), NONE);
        x.say(0, 0);
        CHECK.due("asked", x.noon(), 1);
        CHECK.due("asked a day ago", x.noon(), 1);
        x.say(1, 0);
        x.say(0, 1);
        CHECK.due("asked, then said what is not asking", x.noon(), 0);
        CHECK.due("nobody asked: it stays", x.noon(), 0);
        LastToAsk y = Check.laid("r0,3,0;r0,0,0;s1,1;");
        y.say(0, 0);
        y.say(1, 0);
        CHECK.due("it is 0's", y.noon(), 0);
        y.mend(0);
        y.say(0, 0);
        CHECK.due("nobody asked by the deed mended: it stays", y.noon(), 0);
    }

    private static void whoHasNotAskedForLongest() {
        CHECK.by("THE FORTUNE is his then who has not asked for longest (of several the lowest);");
        String[] texts = {"r0,7,0;r0,7,0;r0,5,0;", "r0,5,0;r0,7,0;r0,7,0;", "r0,7,0;r0,5,0;r0,7,0;",
            "r0,7,0;r0,7,0;r0,7,0;", "r0,5,0;r0,6,0;r0,7,0;", "r0,7,0;r0,6,0;r0,5,0;"};
        int[][] due = {{1, 0, 0}, {1, 2, 1}, {2, 0, 0}, {1, 0, 0}, {2, 2, 1}, {1, 0, 0}};
        for (int k = 0; k < texts.length; k++) {
            for (int i = 0; i < 3; i++) {
                LastToAsk x = Check.laid(texts[k] + "s1,1;");
                x.say(i, 0);
                CHECK.due("noon() of " + texts[k] + " with " + i + " asking", x.noon(), due[k][i]);
            }
        }
        LastToAsk x = Check.laid("r0,5,0;r0,6,0;r0,7,0;s1,1;");
        x.say(2, 0);
        x.say(1, 0);
        x.say(0, 0);
        CHECK.due("all asked: the lowest", x.noon(), 0);
        x.say(0, 0);
        CHECK.due("two are left: the lower one", x.noon(), 1);
        x.say(0, 0);
        x.say(1, 0);
        x.say(0, 0);
        CHECK.due("one is left", x.noon(), 2);
        x.say(2, 0);
        CHECK.due("who has it asks: the lowest of the others", x.noon(), 0);
    }

    private static void nextDay() {
        CHECK.by("then the next day begins.");
        LastToAsk x = two();
        Check.say(x, 0, 0, 4);
        x.noon();
        CHECK.due("the day", x.count(4), 1);
        CHECK.due("SAID today", x.count(10), 0);
        CHECK.due("AGO of who asked", x.relative(0, 1), 1);
        CHECK.due("AGO of who did not", x.relative(1, 1), 6);
        CHECK.due("four can be SAID anew", x.say(0, 1), 0);
        Check.noons(x, 98);
        CHECK.due("the day", x.count(4), 99);
        CHECK.due("AGO", x.relative(1, 1), 104);
    }

    private static void nobodysAtFirst() {
        CHECK.by("At first it is nobody's (on day 0 nobody has asked yet, A 0 or not).");
        String[] texts = {"r0,0,0;r0,0,0;s1,1;", "r0,0,0;r0,9,0;s1,1;", "r0,9,0;r0,9,0;s1,1;"};
        for (String text : texts) {
            LastToAsk x = Check.laid(text);
            CHECK.due("whose " + text, x.count(5), 0);
            CHECK.due("0's " + text, x.relative(0, 3), 0);
            CHECK.due("how often 0 asked " + text, x.relative(0, 4), 0);
            CHECK.due("by some asking alone: make(0) of " + text, x.make(0) != 0 ? 1 : 0, 1);
            CHECK.due("noon() of " + text, x.noon(), NONE);
            CHECK.due("whose a day later " + text, x.count(5), 0);
        }
    }

    private static void mendedFromNowOn() {
        CHECK.by("THE DEED can be MENDED: other TOPICS, from now on.");
        LastToAsk x = Check.laid("r0,9,0;r0,5,0;s1,1;s2,1;d1;");
        x.say(0, 0);
        x.mend(2);
        CHECK.due("THE DEED", x.count(2), 2);
        CHECK.due("what was asking is so no more", x.asking(0, 0), 0);
        CHECK.due("what was not is so now", x.asking(1, 0), 1);
        CHECK.due("who asked did ask", x.relative(0, 1), 0);
        CHECK.due("who asked did ask: noon()", x.noon(), 1);
        CHECK.due("THE DEED, a day later", x.count(2), 2);
        CHECK.due("say(1, 0)", x.say(1, 0), 0);
        CHECK.due("say(1, 1)", x.say(1, 1), 1);
        x.mend(0);
        CHECK.due("no TOPIC: say(0, 1)", x.say(0, 1), 0);
        x.mend(63);
        CHECK.due("all TOPICS: say(0, 0)", x.say(0, 0), 1);
        CHECK.due("mended to what it is", x.mend(63), 63);
    }

    private static void eachKindUndone() {
        CHECK.by("UNDONE is the latest SAYING, NOON, mending");
        LastToAsk x = two();
        String[] stood = new String[5];
        stood[0] = Check.everything(x);
        x.say(0, 0);
        stood[1] = Check.everything(x);
        x.say(1, 1);
        stood[2] = Check.everything(x);
        x.noon();
        stood[3] = Check.everything(x);
        x.mend(7);
        for (int k = 3; k >= 0; k--) {
            CHECK.due("undo()", x.undo(), k);
            CHECK.due("all as it stood", Check.everything(x), stood[k]);
        }
        LastToAsk y = two();
        y.noon();
        y.took(1, 0);
        y.write('d');
        y.keep();
        y.fault();
        y.deeds(0);
        y.year(9, 9, 0);
        CHECK.due("what can be undone", y.count(7), 1);
        y.undo();
        CHECK.due("the day", y.count(4), 0);
        CHECK.due("TOOK is not undone", y.count(6), 1);
        CHECK.due("KEPT is not undone", y.count(8), 1);
        CHECK.due("THE TEXT is not undone", y.count(9), 28);
        y.wipe();
        y.forget();
        CHECK.due("undo() of wipe(), forget()", y.undo(), NO);
    }

    private static void lastEightUndone() {
        CHECK.by("(the last 8 can be).");
        LastToAsk x = two();
        for (int k = 1; k <= 20; k++) {
            x.mend(k);
            CHECK.due("can be undone behind " + k, x.count(7), Math.min(k, 8));
        }
        for (int k = 7; k >= 0; k--) {
            CHECK.due("undo()", x.undo(), k);
            CHECK.due("THE DEED", x.count(2), k + 12);
        }
        CHECK.due("undo() of a ninth", x.undo(), NO);
        CHECK.due("THE DEED", x.count(2), 12);
        for (int k = 1; k <= 5; k++) {
            x.mend(k + 30);
        }
        x.undo();
        x.undo();
        Check.noons(x, 3);
        CHECK.due("can be undone, some undone and done", x.count(7), 6);
        for (int k = 5; k >= 0; k--) {
            CHECK.due("undo()", x.undo(), k);
        }
        CHECK.due("THE DEED", x.count(2), 12);
        CHECK.due("the day", x.count(4), 0);
        CHECK.due("undo()", x.undo(), NO);
    }

    private static void say() {
        CHECK.by("`int say(int i, int s)`: SAID by i: 1 if it is ASKING, 0. BAD; FULL (4 on this day).");
        // more sayings than relatives: the two numbers cannot be taken for one another
        LastToAsk x = Check.laid("r0,9,0;r3,5,0;s1,1;s2,1;s1,0;d1;");
        for (int far : FAR) {
            CHECK.due("say(" + far + ", 0)", x.say(far, 0), BAD);
            CHECK.due("say(0, " + far + ")", x.say(0, far), BAD);
        }
        CHECK.due("say(2, 0)", x.say(2, 0), BAD);
        CHECK.due("say(0, 3)", x.say(0, 3), BAD);
        CHECK.due("SAID today", x.count(10), 0);
        CHECK.due("say(1, 2)", x.say(1, 2), 0);
        CHECK.due("say(0, 1)", x.say(0, 1), 0);
        CHECK.due("say(1, 1)", x.say(1, 1), 1);
        CHECK.due("say(0, 0)", x.say(0, 0), 1);
        CHECK.due("a fifth", x.say(0, 0), FULL);
        CHECK.due("a fifth by none", x.say(2, 0), BAD);
        CHECK.due("a fifth that cannot be said", x.say(0, 3), BAD);
    }

    /** Far more calls than an object is promised for: there is no other way to day 9999. */
    private static void noon() {
        CHECK.by("`int noon()`: NOON: whose it is. NONE: nobody's; NO: it is day 9999.");
        LastToAsk x = two();
        CHECK.due("nobody's", x.noon(), NONE);
        x.say(0, 0);
        CHECK.due("1's", x.noon(), 1);
        x.say(1, 0);
        CHECK.due("0's", x.noon(), 0);
        Check.noons(x, 9995);
        CHECK.due("the day", x.count(4), 9998);
        CHECK.due("noon() on day 9998", x.noon(), 0);
        CHECK.due("the day", x.count(4), 9999);
        String last = Check.everything(x);
        CHECK.due("noon() on day 9999", x.noon(), NO);
        CHECK.due("nothing changes", Check.everything(x), last);
        x.say(0, 0);
        CHECK.due("noon() on day 9999, somebody asked", x.noon(), NO);
        CHECK.due("the day", x.count(4), 9999);
        CHECK.due("SAID today", x.count(10), 1);
        CHECK.due("whose it is", x.count(5), 1);
        x.undo();
        x.undo();
        CHECK.due("noon() on day 9998 again", x.noon(), 0);
    }

    private static void mend() {
        CHECK.by("`int mend(int topics)`: THE DEED is MENDED: what it was. BAD.");
        LastToAsk x = two();
        for (int far : FAR) {
            CHECK.due("mend(" + far + ")", x.mend(far), BAD);
        }
        CHECK.due("nothing can be undone", x.count(7), 0);
        CHECK.due("mend(63)", x.mend(63), 1);
        CHECK.due("mend(0)", x.mend(0), 63);
        CHECK.due("mend(64) of none", x.mend(64), BAD);
        CHECK.due("mend(32)", x.mend(32), 0);
        CHECK.due("THE DEED", x.count(2), 32);
    }

    private static void undo() {
        CHECK.by("`int undo()`: UNDONE: how many more can be. NO.");
        LastToAsk x = two();
        CHECK.due("undo() of nothing", x.undo(), NO);
        x.mend(2);
        CHECK.due("undo() of one", x.undo(), 0);
        CHECK.due("undo() of nothing left", x.undo(), NO);
        x.say(0, 0);
        x.noon();
        CHECK.due("undo() of two", x.undo(), 1);
        x.mend(BAD);
        CHECK.due("what was refused is not undone", x.undo(), 0);
        CHECK.due("AGO", x.relative(0, 1), 9);
        Check.say(x, 0, 0, 4);
        x.say(0, 0);
        CHECK.due("a fifth, refused, is not undone", x.undo(), 3);
    }
}
