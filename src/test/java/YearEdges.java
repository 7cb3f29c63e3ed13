import java.math.BigInteger;

/** The edges of A YEAR and of what is KEPT (terms 4) and of promises 26 to 29. */
final class YearEdges {
    private static final Check CHECK = EdgesTest.CHECK;
    private static final int BAD = -1, NO = -2, FULL = -3, NONE = -4;
    private static final int[] FAR = {-1, -2, 10000, 10001, Integer.MAX_VALUE, Integer.MIN_VALUE};

    private YearEdges() { }

    static void all() {
        drawsAndDays();
        relativesByDraw();
        sayingsByDraw();
        silentDays();
        nothingElseToday();
        draws();
        whoseThen();
        changes();
        kept();
        notUndoneBehindBack();
        twoKept();
        year();
        keep();
        back();
        count();
    }

    /** The draw by figures of any length. */
    private static int draw(int z, int k) {
        BigInteger x = BigInteger.valueOf(7919).multiply(BigInteger.valueOf(z))
                .add(BigInteger.valueOf(6151).multiply(BigInteger.valueOf(k))).add(BigInteger.ONE);
        return x.multiply(x).mod(BigInteger.valueOf(65521)).intValue() / 8;
    }

    /**
     * Whose it is and how often it became another one's, gone through day by day; agos counts on day 0, and
     * asks tells by a 1 for each saying whether it is asking by each relative.
     */
    private static int[] yearOf(int[] agos, String asks, int z, int n) {
        int owner = NONE;
        int changes = 0;
        int[] ago = agos.clone();
        for (int k = 0; k < n; k++) {
            int draw = draw(z, k);
            boolean speaks = draw / 64 % 3 == 0 && asks.charAt(draw / 8 % asks.length()) == '1';
            if (speaks) {
                ago[draw % ago.length] = 0;
                int longest = 0;
                for (int i = 1; i < ago.length; i++) {
                    longest = ago[i] > ago[longest] ? i : longest;
                }
                changes += owner == longest ? 0 : 1;
                owner = longest;
            }
            for (int i = 0; i < ago.length; i++) {
                ago[i]++;
            }
        }
        return new int[] {owner, changes};
    }

    private static void same(LastToAsk x, int z, int n, int[] due) {
        CHECK.due("year(" + z + ", " + n + ", 0)", x.year(z, n, 0), due[0]);
        CHECK.due("year(" + z + ", " + n + ", 1)", x.year(z, n, 1), due[1]);
    }

    private static LastToAsk two() {
        return Check.laid("r0,9,0;r0,5,0;s1,1;d1;");
    }

    private static void drawsAndDays() {
        CHECK.by("A YEAR by z (0 to 9999) of n (1 to 99) days from now on:");
        int[] agos = {9, 5};
        LastToAsk x = two();
        int[] zs = {0, 1, 2, 9998, 9999};
        int[] ns = {1, 2, 3, 98, 99};
        for (int z : zs) {
            for (int n : ns) {
                same(x, z, n, yearOf(agos, "1", z, n));
            }
        }
        int[] bad = {BAD, BAD};
        same(x, -1, 9, bad);
        same(x, 10000, 9, bad);
        same(x, 9, 0, bad);
        same(x, 9, 100, bad);
        CHECK.due("no day passes by it", x.count(4), 0);
    }

    private static void relativesByDraw() {
        CHECK.by("on the k-th (0 first) RELATIVE DRAW modulo as many as there are");
        String text = "";
        int[] agos = {10, 20, 30, 40, 50, 60};
        for (int many = 1; many <= 6; many++) {
            text += "r0," + agos[many - 1] + ",0;";
            if (many >= 2) {
                LastToAsk x = Check.laid(text + "s1,1;");
                int[] these = java.util.Arrays.copyOf(agos, many);
                for (int z = 0; z < 60; z++) {
                    same(x, z * 167, 1 + z % 99, yearOf(these, "1", z * 167, 1 + z % 99));
                }
            }
        }
    }

    private static void sayingsByDraw() {
        CHECK.by("says SAYING (DRAW by 8, cut) modulo as many as there are,");
        int[] agos = {9, 5};
        String text = "r0,9,0;r0,5,0;d1;";
        String asks = "";
        for (int many = 1; many <= 8; many++) {
            String question = many % 3 == 1 ? "1" : "0";
            text += "s1," + question + ";";
            asks += question;
            LastToAsk x = Check.laid(text);
            for (int z = 0; z < 60; z++) {
                same(x, z * 163, 1 + z % 20, yearOf(agos, asks, z * 163, 1 + z % 20));
            }
        }
    }

    private static void silentDays() {
        CHECK.by("if (DRAW by 64, cut) modulo 3 is 0");
        LastToAsk x = two();
        int said = 0;
        for (int z = 0; z < 200; z++) {
            boolean speaks = draw(z, 0) / 64 % 3 == 0;
            said += speaks ? 1 : 0;
            CHECK.due("year(" + z + ", 1, 0)", x.year(z, 1, 0), speaks ? 1 - draw(z, 0) % 2 : NONE);
        }
        CHECK.due("days on which somebody speaks are some of them", said > 20 && said < 180 ? 1 : 0, 1);
    }

    private static void nothingElseToday() {
        CHECK.by("(nothing else is SAID than what was today already),");
        LastToAsk x = two();
        x.say(0, 0);
        // what was SAID today makes it 1's at the first noon, on which by z 1 nobody speaks, and by z 0 0 does
        CHECK.due("by z 1 nobody speaks", draw(1, 0) / 64 % 3 == 0 ? 1 : 0, 0);
        same(x, 1, 1, new int[] {1, 1});
        same(x, 0, 1, new int[] {1, 1});
        x.noon();
        same(x, 1, 1, new int[] {1, 0});
        x.mend(0);
        for (int z = 0; z < 50; z++) {
            same(x, z, 99, new int[] {1, 0});
        }
        x.mend(1);
        x.say(1, 0);
        x.mend(0);
        same(x, 0, 99, new int[] {0, 1});
        CHECK.due("nothing is said by it", x.count(10), 1);
        CHECK.due("nothing is asked by it", x.relative(0, 4), 1);
    }

    private static void draws() {
        CHECK.by("DRAW being ((x times x) modulo 65521) by 8, cut, x 7919 z, 6151 k and 1 together:");
        LastToAsk x = two();
        LastToAsk y = two();
        int[] agos = {9, 5};
        for (int z = 9800; z <= 9999; z++) {
            // x times x is more than an int holds by far
            same(z % 2 == 0 ? x : y, z, 99, yearOf(agos, "1", z, 99));
        }
    }

    private static void whoseThen() {
        CHECK.by("whose it is then (NONE: nobody's);");
        LastToAsk x = two();
        CHECK.due("by z 1 nobody speaks on the first day", x.year(1, 1, 0), NONE);
        CHECK.due("by z 0 0 does", x.year(0, 1, 0), 1);
        x.mend(0);
        CHECK.due("nothing is asking", x.year(0, 99, 0), NONE);
        x.mend(1);
        x.say(1, 0);
        x.noon();
        x.mend(0);
        CHECK.due("it stays 0's", x.year(0, 99, 0), 0);
    }

    private static void changes() {
        CHECK.by("how many noons there were at which it became another one's.");
        LastToAsk x = two();
        CHECK.due("it stays nobody's", x.year(1, 1, 1), 0);
        CHECK.due("from nobody to 1", x.year(0, 1, 1), 1);
        x.say(0, 0);
        x.noon();
        // it is 1's, and by z 0 0 asks on the first day once more: it stays so
        CHECK.due("it stays 1's by who asks", x.year(0, 1, 1), 0);
        x.say(1, 0);
        CHECK.due("from 1 to 0", x.year(1, 1, 1), 1);
        LastToAsk y = two();
        int[] agos = {9, 5};
        int most = 0;
        for (int z = 0; z < 200; z++) {
            int due = yearOf(agos, "1", z, 99)[1];
            most = Math.max(most, due);
            CHECK.due("year(" + z + ", 99, 1)", y.year(z, 99, 1), due);
        }
        CHECK.due("there and back many times", most > 10 ? 1 : 0, 1);
    }

    private static void kept() {
        CHECK.by("KEPT is all as it stands, but what TOOK tells and THE TEXT (these stay by back(),");
        LastToAsk x = Check.laid("r0,9,1;r0,5,2;s1,1;d1;");
        x.say(0, 0);
        x.noon();
        x.mend(3);
        x.say(1, 0);
        x.took(1, 1);
        x.keep();
        String stood = Check.everything(x);
        x.noon();
        x.mend(0);
        x.noon();
        x.say(0, 0);
        x.back();
        String back = stood.replaceFirst(" 1 4 1 ", " 1 0 0 ");
        CHECK.due("all as it stood, but UNDONE, KEPT", Check.everything(x), back);
        x.keep();
        x.took(1, 0);
        x.write('d');
        x.back();
        CHECK.due("what TOOK tells stays", x.count(6), 2);
        CHECK.due("THE TEXT stays", x.count(9), 23);
        CHECK.due("what TOOK tells counts", x.deeds(0), 0);
        CHECK.due("THE TEXT is read", x.fault(), 22);
        x.keep();
        x.forget();
        x.wipe();
        x.back();
        CHECK.due("what TOOK tells stays forgotten", x.count(6), 0);
        CHECK.due("THE TEXT stays empty", x.count(9), 0);
    }

    private static void notUndoneBehindBack() {
        CHECK.by("behind which nothing can be UNDONE):");
        LastToAsk x = two();
        x.mend(2);
        x.mend(3);
        x.keep();
        x.mend(4);
        CHECK.due("can be undone", x.count(7), 3);
        x.back();
        CHECK.due("can be undone behind back()", x.count(7), 0);
        CHECK.due("undo() behind back()", x.undo(), NO);
        CHECK.due("THE DEED", x.count(2), 3);
        x.mend(5);
        CHECK.due("undo() of what came then", x.undo(), 0);
        CHECK.due("THE DEED", x.count(2), 3);
        CHECK.due("undo()", x.undo(), NO);
    }

    private static void twoKept() {
        CHECK.by("2 at most.");
        LastToAsk x = two();
        CHECK.due("one", x.keep(), 1);
        x.mend(2);
        CHECK.due("two", x.keep(), 2);
        x.mend(3);
        CHECK.due("a third", x.keep(), FULL);
        CHECK.due("KEPT", x.count(8), 2);
        CHECK.due("the latest", x.back(), 1);
        CHECK.due("THE DEED of the latest", x.count(2), 2);
        x.mend(4);
        CHECK.due("two again", x.keep(), 2);
        CHECK.due("a third again", x.keep(), FULL);
        CHECK.due("the latest", x.back(), 1);
        CHECK.due("THE DEED of the latest", x.count(2), 4);
        CHECK.due("the first", x.back(), 0);
        CHECK.due("THE DEED of the first", x.count(2), 1);
        CHECK.due("none left", x.back(), NO);
    }

    private static void year() {
        CHECK.by("`int year(int z, int n, int what)`: A YEAR: whose (what = 0; NONE), how many (1). BAD.");
        LastToAsk x = two();
        for (int far : FAR) {
            CHECK.due("year(" + far + ", 1, 0)", x.year(far, 1, 0), BAD);
            CHECK.due("year(1, " + far + ", 0)", x.year(1, far, 0), BAD);
            CHECK.due("year(1, 1, " + far + ")", x.year(1, 1, far), BAD);
        }
        CHECK.due("year(1, 0, 0)", x.year(1, 0, 0), BAD);
        CHECK.due("year(1, 100, 0)", x.year(1, 100, 0), BAD);
        CHECK.due("year(1, 1, 2)", x.year(1, 1, 2), BAD);
        CHECK.due("year(1, 1, 0)", x.year(1, 1, 0), NONE);
        CHECK.due("year(1, 1, 1)", x.year(1, 1, 1), 0);
    }

    private static void keep() {
        CHECK.by("`int keep()`: KEPT: how many. FULL.");
        LastToAsk x = two();
        x.mend(9);
        CHECK.due("one", x.keep(), 1);
        CHECK.due("two", x.keep(), 2);
        CHECK.due("a third", x.keep(), FULL);
        CHECK.due("keeping is not undone", x.undo(), 0);
        CHECK.due("KEPT", x.count(8), 2);
        CHECK.due("THE DEED", x.count(2), 1);
        CHECK.due("the latest", x.back(), 1);
        CHECK.due("THE DEED as kept", x.count(2), 9);
    }

    private static void back() {
        CHECK.by("`int back()`: As KEPT last (it is KEPT no more then): how many are left; nothing is UNDONE then. NO.");
        LastToAsk x = two();
        CHECK.due("nothing kept", x.back(), NO);
        x.mend(2);
        CHECK.due("NO undoes nothing", x.count(7), 1);
        x.keep();
        CHECK.due("one kept", x.back(), 0);
        CHECK.due("it is kept no more", x.back(), NO);
        CHECK.due("KEPT", x.count(8), 0);
        CHECK.due("nothing is undone then", x.undo(), NO);
    }

    private static void count() {
        CHECK.by("`int count(int what)`: How many: 0 RELATIVES, 1 SAYINGS, 2 THE DEED, 3 H, 4 the day, "
                + "5 whose it is (0: nobody's, else the number and 1), 6 that TOOK tells, 7 that can be UNDONE, "
                + "8 KEPT, 9 letters of THE TEXT, 10 SAID today. BAD.");
        LastToAsk x = Check.laid("r0,9,0;r0,5,0;r1,6,0;s1,1;s2,0;d3;h4;");
        int[] first = {3, 2, 3, 4, 0, 0, 0, 0, 0, 37, 0};
        for (int what = 0; what <= 10; what++) {
            CHECK.due("count(" + what + ") of what is laid", x.count(what), first[what]);
        }
        x.say(1, 0);
        x.noon();
        x.took(1, 0);
        x.mend(0);
        x.keep();
        x.keep();
        Check.say(x, 0, 1, 3);
        x.write('d');
        int[] then = {3, 2, 0, 4, 1, 1, 1, 6, 2, 38, 3};
        for (int what = 0; what <= 10; what++) {
            CHECK.due("count(" + what + ")", x.count(what), then[what]);
        }
        x.undo();
        x.undo();
        x.undo();
        x.mend(1);
        x.say(0, 0);
        x.noon();
        CHECK.due("count(5): 2's", x.count(5), 3);
        int[] wrong = {-1, 11, 12, 32, Integer.MAX_VALUE, Integer.MIN_VALUE};
        for (int what : wrong) {
            CHECK.due("count(" + what + ")", x.count(what), BAD);
        }
    }
}
