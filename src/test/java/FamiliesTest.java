/** Promises 1 and 4 to 9: a new object, the fault of a text, what is laid, relatives, sayings, what is known. */
public final class FamiliesTest {
    private static final Check CHECK = new Check("families");
    private static final int BAD = -1, NO = -2, NONE = -4;

    public static void main(String[] args) {
        newObject();
        faults();
        laying();
        layingAnew();
        relatives();
        sayings();
        askings();
        knowing();
        CHECK.close();
    }

    private static void newObject() {
        LastToAsk x = new LastToAsk();
        CHECK.due("standing", Check.standing(x),
                "5 6 5 2 0 0 0 0 0 0 0 "
                + "0 40 1 0 0 1 12 2 0 0 2 55 0 0 0 3 3 1 0 0 4 70 9 0 0 ");
        int[][] sayings = {{1, 1}, {6, 0}, {5, 1}, {14, 0}, {8, 1}, {3, 0}};
        for (int s = 0; s < sayings.length; s++) {
            CHECK.due("saying(" + s + ", 0)", x.saying(s, 0), sayings[s][0]);
            CHECK.due("saying(" + s + ", 1)", x.saying(s, 1), sayings[s][1]);
        }
        CHECK.due("fault() of no text", x.fault(), NONE);
        CHECK.due("lay() of no text", x.lay(), NO);
        CHECK.due("undo() at first", x.undo(), NO);
        CHECK.due("back() at first", x.back(), NO);
        CHECK.due("forget() at first", x.forget(), 0);
        CHECK.due("BAD", LastToAsk.BAD, -1);
        CHECK.due("NO", LastToAsk.NO, -2);
        CHECK.due("FULL", LastToAsk.FULL, -3);
        CHECK.due("NONE", LastToAsk.NONE, -4);
    }

    private static void fault(String text, int want) {
        LastToAsk x = new LastToAsk();
        Check.write(x, text);
        String before = Check.standing(x);
        CHECK.due("fault() of " + text, x.fault(), want);
        CHECK.due("standing behind fault() of " + text, Check.standing(x), before);
    }

    private static void faults() {
        String[] right = {"", "r0,40,1;", "r4,99,9;", "r0,0,0;", "r00,07,09;", "s63,1;", "s0,0;", "s00,01;",
            "d0;", "d63;", "d05;d6;d7;", "h1;", "h6;h06;", "h2;d3;s1,0;r1,1,1;",
            "r0,0,0;r0,0,0;r0,0,0;r0,0,0;r0,0,0;r0,0,0;",
            "s1,1;s1,1;s1,1;s1,1;s1,1;s1,1;s1,1;s1,1;"};
        for (String text : right) {
            fault(text, NONE);
        }
        String[] wrong = {"r5,0,0;", "r0,100,0;", "r0,0,10;", "r000,1,1;", "r0,1;", "r0,1,2,3;", "r,1,2;",
            "r0,,2;", "r0,1,;", "r0,1,1", "r0,1,1,", "r", "r0;1;1;", "r0,1,1:", "r;", "s64,0;", "s1,2;", "s1;",
            "s1,0,0;", "s,0;", "s1,;", "s1,0", "d64;", "d99;", "d;", "d1,1;", "d", "d1", "d100;", "h0;", "h7;",
            "h;", "h1,1;", "h00;", "h10;", "x1;", "x;", " d1;", ";", "R0,1,1;", "D1;", "1;", "d-1;", "d+1;",
            "d 1;", "d1 ;", "d1,;", "d:;", "d/;", "t1,1;", "i1;"};
        for (String text : wrong) {
            fault(text, 0);
            fault("d1;" + text, 3);
            fault(text + "r9,9,9;", 0);
        }
        fault("d1; d2;", 3);
        fault("d1;;", 3);
        fault("r0,40,1;s1,2;x", 8);
        fault("r0,40,1;s1,1;x", 13);
        fault("r0,0,0;r0,0,0;r0,0,0;r0,0,0;r0,0,0;r0,0,0;r0,0,0;", 42);
        fault("s1,1;s1,1;s1,1;s1,1;s1,1;s1,1;s1,1;s1,1;d1;s1,1;", 43);
    }

    private static void laying() {
        String[] wrong = {"r0,1,1;s1,1;", "r0,1,1;r0,2,2;", "r0,1,1;r0,2,2;d1;h1;", "s1,1;",
            "r0,1,1;r0,2,2;s1,1;x", "r0,1,1;r0,2,2;s1,1;r5,0,0;", "r0,1,1;r0,2,2;s1,1"};
        for (String text : wrong) {
            LastToAsk x = new LastToAsk();
            Check.write(x, text);
            x.say(0, 0);
            x.noon();
            x.took(1, 4);
            x.keep();
            String before = Check.standing(x);
            CHECK.due("lay() of " + text, x.lay(), NO);
            CHECK.due("standing behind lay() of " + text, Check.standing(x), before);
            CHECK.due("saying(5, 0)", x.saying(5, 0), 3);
        }
        LastToAsk x = new LastToAsk();
        Check.write(x, "s9,0;r3,07,5;r2,99,0;");
        CHECK.due("lay()", x.lay(), 2);
        CHECK.due("standing behind lay()", Check.standing(x), "2 1 1 3 0 0 0 0 0 21 0 3 7 5 0 0 2 99 0 0 0 ");
        CHECK.due("saying(0, 0)", x.saying(0, 0), 9);
        CHECK.due("saying(0, 1)", x.saying(0, 1), 0);
        CHECK.due("saying(1, 0)", x.saying(1, 0), BAD);
        Check.write(x, "d7;h1;d6;h4;r0,1,1;r0,1,1;r0,1,1;r0,1,1;");
        CHECK.due("lay() of six", x.lay(), 6);
        CHECK.due("the last deed counts", x.count(2), 6);
        CHECK.due("the last hint counts", x.count(3), 4);
        x.wipe();
        Check.write(x, "r0,1,1;r1,0,0;s1,1;");
        CHECK.due("lay() of fewer", x.lay(), 2);
        CHECK.due("THE DEED without one", x.count(2), 1);
        CHECK.due("HINT without one", x.count(3), 3);
        CHECK.due("relative(2, 0) of fewer", x.relative(2, 0), BAD);
    }

    private static void layingAnew() {
        LastToAsk x = Check.laid("r0,9,1;r2,5,2;s1,1;d3;h2;");
        x.say(0, 0);
        x.noon();
        x.say(1, 0);
        x.mend(5);
        x.took(1, 0);
        x.keep();
        CHECK.due("lay() anew", x.lay(), 2);
        CHECK.due("standing", Check.standing(x), "2 1 3 2 0 0 0 0 0 25 0 0 9 1 0 0 2 5 2 0 0 ");
        CHECK.due("knows(0, 1)", x.knows(0, 1), 5);
        CHECK.due("undo() behind lay()", x.undo(), NO);
        CHECK.due("back() behind lay()", x.back(), NO);
        CHECK.due("deeds(0) behind lay()", x.deeds(0), 64);
        CHECK.due("noon() behind lay(): nobody asked", x.noon(), NONE);
        x.took(1, 1);
        CHECK.due("deeds(0): what was said ahead of lay() is gone", x.deeds(0), 0);
    }

    private static void relatives() {
        LastToAsk x = Check.laid("r0,9,1;r3,5,2;r4,7,9;s1,1;s2,0;d1;");
        int[][] wrong = {{-1, 0}, {3, 0}, {0, -1}, {0, 5}, {6, 1}, {7, 1}, {Integer.MAX_VALUE, 0},
            {Integer.MIN_VALUE, 0}, {0, Integer.MAX_VALUE}, {0, Integer.MIN_VALUE}};
        for (int[] w : wrong) {
            CHECK.due("relative(" + w[0] + ", " + w[1] + ")", x.relative(w[0], w[1]), BAD);
        }
        CHECK.due("KIND", x.relative(1, 0), 3);
        CHECK.due("M", x.relative(2, 2), 9);
        CHECK.due("AGO", x.relative(1, 1), 5);
        CHECK.due("noon()", x.noon(), NONE);
        CHECK.due("AGO a day later", x.relative(1, 1), 6);
        CHECK.due("nobody's", x.relative(0, 3), 0);
        x.say(1, 0);
        CHECK.due("AGO today", x.relative(1, 1), 0);
        CHECK.due("asked once", x.relative(1, 4), 1);
        x.say(1, 0);
        CHECK.due("asked twice on a day", x.relative(1, 4), 2);
        x.say(1, 1);
        CHECK.due("said what is not asking", x.relative(1, 4), 2);
        CHECK.due("noon() goes to 0", x.noon(), 0);
        CHECK.due("his", x.relative(0, 3), 1);
        CHECK.due("not his", x.relative(1, 3), 0);
        x.say(2, 0);
        CHECK.due("one abroad never asks", x.relative(2, 4), 0);
        CHECK.due("AGO of one abroad", x.relative(2, 1), 9);
    }

    private static void sayings() {
        LastToAsk x = Check.laid("r0,9,1;r3,5,2;s63,1;s2,0;s0,1;");
        int[][] told = {{63, 1}, {2, 0}, {0, 1}};
        for (int s = 0; s < 3; s++) {
            CHECK.due("saying(" + s + ", 0)", x.saying(s, 0), told[s][0]);
            CHECK.due("saying(" + s + ", 1)", x.saying(s, 1), told[s][1]);
            CHECK.due("saying(" + s + ", 2)", x.saying(s, 2), BAD);
            CHECK.due("saying(" + s + ", -1)", x.saying(s, -1), BAD);
        }
        int[] wrong = {-1, 3, 7, 8, Integer.MAX_VALUE, Integer.MIN_VALUE};
        for (int s : wrong) {
            CHECK.due("saying(" + s + ", 0)", x.saying(s, 0), BAD);
            CHECK.due("saying(" + s + ", 1)", x.saying(s, 1), BAD);
        }
    }

    /** Rows: sayings; columns: plain, aunt, cousin, child, abroad. */
    private static void askings(LastToAsk x, String[] rows) {
        for (int s = 0; s < rows.length; s++) {
            for (int i = 0; i < 5; i++) {
                CHECK.due("asking(" + s + ", " + i + ")", x.asking(s, i), rows[s].charAt(i) - '0');
            }
        }
    }

    private static void askings() {
        LastToAsk x = Check.laid("r0,1,1;r1,1,1;r2,1,1;r3,1,1;r4,1,1;"
                + "s1,1;s1,0;s6,1;s6,0;s3,0;s7,0;s0,1;s0,0;d1;h2;");
        askings(x, new String[] {"11110", "00100", "00010", "00000", "01100", "01100", "00010", "00000"});
        x.mend(2);
        askings(x, new String[] {"00010", "00000", "11110", "01100", "01100", "01100", "00010", "00000"});
        x.mend(0);
        askings(x, new String[] {"00010", "00000", "00010", "00000", "00000", "00000", "00010", "00000"});
        LastToAsk y = Check.laid("r0,1,1;r1,1,1;r2,1,1;r3,1,1;r4,1,1;s3,0;s7,0;s1,0;s56,0;d1;");
        askings(y, new String[] {"00100", "01100", "00100", "00000"});
        LastToAsk z = Check.laid("r0,1,1;r1,1,1;r2,1,1;r3,1,1;r4,1,1;s1,0;s0,0;s2,0;d1;h1;");
        askings(z, new String[] {"01100", "00000", "00000"});
        int[][] wrong = {{3, 0}, {-1, 0}, {0, 5}, {0, -1}, {8, 0}, {0, 6}, {Integer.MAX_VALUE, 0},
            {0, Integer.MIN_VALUE}};
        for (int[] w : wrong) {
            CHECK.due("asking(" + w[0] + ", " + w[1] + ")", z.asking(w[0], w[1]), BAD);
        }
    }

    private static void knowing() {
        LastToAsk x = Check.laid("r0,20,0;r2,30,2;r2,40,9;s1,0;s1,1;d1;");
        CHECK.due("told by A", x.knows(2, 1), 30);
        x.say(1, 0);
        CHECK.due("mails of 0 days: today", x.knows(0, 1), 0);
        CHECK.due("of himself all", x.knows(1, 1), 0);
        CHECK.due("mails of 9 days: not today", x.knows(2, 1), 30);
        CHECK.due("of one who did not ask", x.knows(1, 2), 40);
        x.noon();
        x.say(0, 1);
        x.noon();
        CHECK.due("not yet two days ago", x.knows(1, 0), 22);
        CHECK.due("known at once", x.knows(2, 2), 42);
        x.noon();
        CHECK.due("two days ago", x.knows(1, 0), 2);
        x.say(0, 1);
        CHECK.due("the asking today is not known yet", x.knows(1, 0), 2);
        CHECK.due("of himself", x.knows(0, 0), 0);
        x.noon();
        CHECK.due("the older one is known still", x.knows(1, 0), 3);
        x.noon();
        CHECK.due("the newer one is known", x.knows(1, 0), 2);
        Check.noons(x, 3);
        CHECK.due("day 8: nothing by mails of 9 days", x.knows(2, 1), 38);
        x.noon();
        CHECK.due("day 9: the asking of day 0", x.knows(2, 1), 9);
        CHECK.due("day 9: not that of day 1", x.knows(2, 0), 29);
        x.noon();
        CHECK.due("day 10: that of day 1", x.knows(2, 0), 9);
        x.noon();
        CHECK.due("day 11: still that of day 1", x.knows(2, 0), 10);
        x.noon();
        CHECK.due("day 12: that of day 3", x.knows(2, 0), 9);
        int[][] wrong = {{3, 0}, {-1, 0}, {0, 3}, {0, -1}, {6, 6}, {Integer.MAX_VALUE, 0}, {0, Integer.MIN_VALUE}};
        for (int[] w : wrong) {
            CHECK.due("knows(" + w[0] + ", " + w[1] + ")", x.knows(w[0], w[1]), BAD);
        }
    }
}
