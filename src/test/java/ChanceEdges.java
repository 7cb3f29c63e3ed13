/** The edges of LASTS (terms 4) and of promise 25. */
final class ChanceEdges {
    private static final Check CHECK = EdgesTest.CHECK;
    private static final int BAD = -1;
    private static final long BILLION = 1000000000L;

    private ChanceEdges() { }

    static void all() {
        someDays();
        lowestChild();
        ofTen();
        whoseItIsNow();
        inLowestTerms();
        lasts();
    }

    private static void chance(LastToAsk x, int n, int ofTen, long above, long below) {
        CHECK.due("lasts(" + n + ", " + ofTen + ", 0)", x.lasts(n, ofTen, 0), above);
        CHECK.due("lasts(" + n + ", " + ofTen + ", 1)", x.lasts(n, ofTen, 1), below);
    }

    private static void someDays() {
        CHECK.by("LASTS: on each of n (0 to 9) days from now on (this one the first)");
        LastToAsk x = Check.laid("r0,50,0;r3,9,0;r0,5,0;s1,1;");
        long above = 1;
        long below = 1;
        for (int n = 0; n <= 9; n++) {
            chance(x, n, 3, above, below);
            above *= 7;
            below *= 10;
        }
        chance(x, -1, 3, BAD, BAD);
        chance(x, 10, 3, BAD, BAD);
        x.say(2, 0);
        // somebody asked on this one already: it is nobody's no more behind its noon
        chance(x, 0, 3, 1, 1);
        chance(x, 1, 3, 0, 1);
        chance(x, 9, 3, 0, 1);
        x.noon();
        chance(x, 9, 10, 1, 1);
        CHECK.due("no day passes by it", x.count(4), 1);
        CHECK.due("nothing is asked by it", x.relative(1, 4), 0);
    }

    /** Whose it is asks: it is another one's then. Another one asks: it stays. */
    private static void lowestChild() {
        CHECK.by("the lowest CHILD (RELATIVE 0, if there is none)");
        LastToAsk x = Check.laid("r0,50,0;r3,60,0;r3,70,0;s1,1;");
        x.say(0, 0);
        x.noon();
        CHECK.due("it is 2's, the higher child's", x.count(5), 3);
        chance(x, 1, 10, 1, 1);
        x.say(2, 0);
        x.noon();
        CHECK.due("it is 1's, the lowest child's", x.count(5), 2);
        chance(x, 1, 10, 0, 1);
        LastToAsk y = Check.laid("r0,50,0;r1,60,0;r2,70,0;r4,80,0;s1,1;");
        y.say(0, 0);
        y.noon();
        CHECK.due("it is 3's", y.count(5), 4);
        chance(y, 1, 10, 1, 1);
        LastToAsk z = Check.laid("r4,90,0;r1,60,0;r2,70,0;s1,1;");
        z.say(1, 0);
        z.noon();
        CHECK.due("it is 0's, abroad or not", z.count(5), 1);
        chance(z, 1, 10, 0, 1);
        LastToAsk v = Check.laid("r3,70,0;r3,60,0;r3,50,0;s1,1;");
        v.say(1, 0);
        v.noon();
        CHECK.due("it is 0's, the lowest of three children", v.count(5), 1);
        chance(v, 1, 10, 0, 1);
        LastToAsk w = Check.laid("r0,50,0;r0,60,0;r0,70,0;r0,71,0;r0,72,0;r3,73,0;s1,1;");
        w.say(0, 0);
        w.noon();
        CHECK.due("it is the sixth one's, the child's", w.count(5), 6);
        chance(w, 2, 10, 0, 1);
    }

    private static void ofTen() {
        CHECK.by("asks by x (0 to 10) of ten, nobody else:");
        LastToAsk x = Check.laid("r3,50,0;r0,9,0;s1,1;");
        long[][] due = {{1, 1}, {9, 10}, {4, 5}, {7, 10}, {3, 5}, {1, 2}, {2, 5}, {3, 10}, {1, 5}, {1, 10}, {0, 1}};
        for (int ofTen = 0; ofTen <= 10; ofTen++) {
            chance(x, 1, ofTen, due[ofTen][0], due[ofTen][1]);
        }
        chance(x, 1, -1, BAD, BAD);
        chance(x, 1, 11, BAD, BAD);
        chance(x, 9, 0, 1, 1);
        chance(x, 9, 10, 0, 1);
        chance(x, 0, 10, 1, 1);
    }

    private static void whoseItIsNow() {
        CHECK.by("the chance that THE FORTUNE is, behind the last of these noons, whose it is now "
                + "(or nobody's, as now),");
        LastToAsk x = Check.laid("r0,50,0;r3,60,0;r0,5,0;s1,1;");
        // nobody's, as long as nobody asks
        chance(x, 2, 4, 9, 25);
        x.say(2, 0);
        x.noon();
        CHECK.due("it is 1's", x.count(5), 2);
        chance(x, 2, 4, 9, 25);
        x.say(1, 0);
        // 0's at noon by who asked today
        chance(x, 2, 4, 0, 1);
        x.noon();
        CHECK.due("it is 0's", x.count(5), 1);
        chance(x, 9, 4, 1, 1);
        LastToAsk y = Check.laid("r0,2,0;r3,9,0;s1,1;");
        y.say(1, 0);
        y.noon();
        CHECK.due("it is 0's", y.count(5), 1);
        y.say(0, 0);
        // this noon 1's but by his own asking; from the next one on by each asking 0's again
        chance(y, 1, 4, 2, 5);
        chance(y, 2, 4, 16, 25);
        chance(y, 3, 10, 1, 1);
        chance(y, 3, 0, 0, 1);
    }

    private static void inLowestTerms() {
        CHECK.by("in lowest terms.");
        LastToAsk x = Check.laid("r3,50,0;r0,9,0;s1,1;");
        chance(x, 9, 9, 1, BILLION);
        chance(x, 9, 1, 387420489, BILLION);
        chance(x, 9, 5, 1, 512);
        chance(x, 9, 8, 1, 1953125);
        chance(x, 9, 2, 262144, 1953125);
        chance(x, 3, 4, 27, 125);
        chance(x, 9, 10, 0, 1);
        chance(x, 9, 0, 1, 1);
        chance(x, 0, 7, 1, 1);
    }

    private static void lasts() {
        CHECK.by("`long lasts(int n, int x, int part)`: LASTS: above (part = 0), below (1). BAD.");
        LastToAsk x = Check.laid("r3,50,0;r0,9,0;s1,1;");
        int[] far = {-1, -2, 11, 12, 64, Integer.MAX_VALUE, Integer.MIN_VALUE};
        for (int f : far) {
            chance(x, f, 5, BAD, BAD);
            chance(x, 5, f, BAD, BAD);
            CHECK.due("lasts(1, 1, " + f + ")", x.lasts(1, 1, f), BAD);
        }
        CHECK.due("lasts(10, 1, 0)", x.lasts(10, 1, 0), BAD);
        CHECK.due("lasts(1, 1, 2)", x.lasts(1, 1, 2), BAD);
        chance(x, 1, 1, 9, 10);
    }
}
