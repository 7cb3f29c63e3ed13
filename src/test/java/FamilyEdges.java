/** The edges of promises 6 to 8 and of what is asking (terms 2). */
final class FamilyEdges {
    private static final Check CHECK = EdgesTest.CHECK;
    private static final int BAD = -1, NONE = -4;
    private static final int[] FAR = {-1, -2, 32, 33, 64, Integer.MAX_VALUE, Integer.MIN_VALUE};

    private FamilyEdges() { }

    static void all() {
        plain();
        aunt();
        cousin();
        child();
        abroad();
        relative();
        saying();
        asking();
    }

    /** Both relatives are alike: the askings of both, a sign a saying. */
    private static void askings(String text, String due) {
        LastToAsk x = Check.laid(text);
        for (int i = 0; i < 2; i++) {
            StringBuilder got = new StringBuilder();
            for (int s = 0; s < x.count(1); s++) {
                got.append(x.asking(s, i));
            }
            CHECK.due("askings of " + text + " by " + i, got.toString(), due);
            for (int s = 0; s < x.count(1); s++) {
                CHECK.due("say(" + i + ", " + s + ") of " + text, x.say(i, s), due.charAt(s) - '0');
                x.noon();
            }
        }
    }

    private static void plain() {
        CHECK.by("A SAYING is ASKING, said by a PLAIN one, if it is a QUESTION and has a TOPIC of THE DEED;");
        String sayings = "s1,1;s1,0;s2,1;s3,1;s63,1;s63,0;s0,1;s62,1;";
        askings("r0,9,0;r0,5,0;" + sayings + "d1;", "10011000");
        askings("r0,9,0;r0,5,0;" + sayings + "d0;", "00000000");
        askings("r0,9,0;r0,5,0;" + sayings + "d63;h1;", "10111001");
    }

    private static void aunt() {
        CHECK.by("by an AUNT also if it is none, but has as many TOPICS (any) as a HINT, or more, one of them of "
                + "THE DEED;");
        askings("r1,9,0;r1,5,0;s3,0;s7,0;s15,0;s56,0;s1,1;s6,1;s0,0;s63,0;h3;d1;", "01101001");
        askings("r1,9,0;r1,5,0;s1,0;s2,0;s3,0;s0,0;s0,1;h1;d1;", "10100");
        askings("r1,9,0;r1,5,0;s63,0;s31,0;s1,1;s62,1;h6;d1;", "1010");
        askings("r1,9,0;r1,5,0;s7,0;s3,0;d1;", "10");
        askings("r1,9,0;r1,5,0;s63,0;s63,1;h1;d0;", "00");
    }

    private static void cousin() {
        CHECK.by("by a COUSIN, if it has a TOPIC of THE DEED, QUESTION or not;");
        askings("r2,9,0;r2,5,0;s1,0;s1,1;s2,0;s2,1;s3,0;s63,1;s0,0;s0,1;d1;h6;", "11001100");
        askings("r2,9,0;r2,5,0;s63,0;s63,1;d0;", "00");
    }

    private static void child() {
        CHECK.by("by a CHILD, if it is a QUESTION;");
        askings("r3,9,0;r3,5,0;s1,0;s1,1;s2,0;s2,1;s63,0;s0,1;s0,0;d1;h1;", "0101010");
        askings("r3,9,0;r3,5,0;s63,0;s63,1;d0;", "01");
    }

    private static void abroad() {
        CHECK.by("by one ABROAD never.");
        askings("r4,9,0;r4,5,0;s1,0;s1,1;s2,1;s63,0;s63,1;s0,1;d63;h1;", "000000");
    }

    private static void relative() {
        CHECK.by("`int relative(int i, int what)`: Of a RELATIVE: KIND (what = 0), AGO (1), M (2), "
                + "1 if THE FORTUNE is his (3), how often he asked (4). BAD.");
        LastToAsk x = Check.laid("r1,9,7;r2,5,3;s7,0;s2,0;d1;");
        for (int far : FAR) {
            CHECK.due("relative(" + far + ", 0)", x.relative(far, 0), BAD);
            CHECK.due("relative(0, " + far + ")", x.relative(0, far), BAD);
        }
        CHECK.due("relative(2, 0)", x.relative(2, 0), BAD);
        CHECK.due("relative(0, 5)", x.relative(0, 5), BAD);
        CHECK.due("nobody's", x.relative(0, 3) + x.relative(1, 3), 0);
        x.say(1, 0);
        x.say(1, 0);
        x.say(1, 1);
        x.noon();
        x.say(1, 0);
        x.noon();
        int[][] due = {{1, 11, 7, 1, 0}, {2, 1, 3, 0, 3}};
        for (int i = 0; i < 2; i++) {
            for (int what = 0; what <= 4; what++) {
                CHECK.due("relative(" + i + ", " + what + ")", x.relative(i, what), due[i][what]);
            }
        }
        x.undo();
        x.undo();
        CHECK.due("how often he asked, one asking undone", x.relative(1, 4), 2);
    }

    private static void saying() {
        CHECK.by("`int saying(int s, int what)`: Of a SAYING: TOPICS (what = 0), 1 if it is a QUESTION (1). BAD.");
        LastToAsk x = Check.laid("r1,9,7;r2,5,3;s63,0;s0,1;");
        CHECK.due("saying(0, 0)", x.saying(0, 0), 63);
        CHECK.due("saying(0, 1)", x.saying(0, 1), 0);
        CHECK.due("saying(1, 0)", x.saying(1, 0), 0);
        CHECK.due("saying(1, 1)", x.saying(1, 1), 1);
        for (int far : FAR) {
            CHECK.due("saying(" + far + ", 0)", x.saying(far, 0), BAD);
            CHECK.due("saying(0, " + far + ")", x.saying(0, far), BAD);
        }
        CHECK.due("saying(2, 0)", x.saying(2, 0), BAD);
        CHECK.due("saying(0, 2)", x.saying(0, 2), BAD);
    }

    private static void asking() {
        CHECK.by("`int asking(int s, int i)`: Whether a SAYING is ASKING by one: 1, 0. BAD.");
        // three sayings and two relatives: whichever of the two numbers is looked at wrongly, it shows
        LastToAsk x = Check.laid("r0,9,7;r3,5,3;s1,1;s2,1;s1,0;d1;");
        int[][] due = {{1, 1}, {0, 1}, {0, 0}};
        for (int s = 0; s < 3; s++) {
            for (int i = 0; i < 2; i++) {
                CHECK.due("asking(" + s + ", " + i + ")", x.asking(s, i), due[s][i]);
            }
        }
        for (int far : FAR) {
            CHECK.due("asking(" + far + ", 0)", x.asking(far, 0), BAD);
            CHECK.due("asking(0, " + far + ")", x.asking(0, far), BAD);
        }
        CHECK.due("asking(3, 0)", x.asking(3, 0), BAD);
        CHECK.due("asking(0, 2)", x.asking(0, 2), BAD);
        CHECK.due("asking(2, 0)", x.asking(2, 0), 0);
        CHECK.due("nothing is said by it", x.count(10), 0);
        CHECK.due("nobody's by it", x.noon(), NONE);
    }
}
