/** The edges of what relatives know of each other (terms 2, promise 9), and of when all know (terms 4, promise 24). */
final class KnowingEdges {
    private static final Check CHECK = EdgesTest.CHECK;
    private static final int BAD = -1;

    private KnowingEdges() { }

    static void all() {
        asManyDaysAgoAsMailsTake();
        olderAskings();
        mailsOfWhoKnows();
        toldByA();
        ofHimself();
        knows();
        knowsAsItStood();
        allKnowing();
        allKnow();
    }

    private static void asManyDaysAgoAsMailsTake() {
        CHECK.by("A RELATIVE KNOWS of another one how many days ago that one asked last, as far as it was M days ago "
                + "or more");
        for (int mail = 0; mail <= 9; mail++) {
            LastToAsk x = Check.laid("r0,40,0;r0,30," + mail + ";s1,1;");
            Check.noons(x, 2);
            x.say(0, 0);
            for (int ago = 0; ago <= 12; ago++) {
                CHECK.due("knows(1, 0) by mails of " + mail + " days, asked " + ago + " days ago", x.knows(1, 0),
                        ago < mail ? 42 + ago : ago);
                x.noon();
            }
        }
    }

    private static void olderAskings() {
        CHECK.by("as far as it was M days ago or more");
        // asked on days 0, 1, 2, 4, 8; the mails take three days
        LastToAsk x = Check.laid("r0,40,0;r0,30,3;s1,1;");
        int[] due = {40, 41, 42, 3, 3, 3, 4, 3, 4, 5, 6, 3, 4};
        for (int day = 0; day < due.length; day++) {
            if (day == 0 || day == 1 || day == 2 || day == 4 || day == 8) {
                x.say(0, 0);
            }
            CHECK.due("knows(1, 0) on day " + day, x.knows(1, 0), due[day]);
            x.noon();
        }
    }

    private static void mailsOfWhoKnows() {
        CHECK.by("(M his own who KNOWS)");
        LastToAsk x = Check.laid("r0,40,9;r0,30,0;s1,1;");
        x.say(0, 0);
        x.say(1, 0);
        CHECK.due("knows(1, 0) by his mails of 0 days", x.knows(1, 0), 0);
        CHECK.due("knows(0, 1) by his mails of 9 days", x.knows(0, 1), 30);
        Check.noons(x, 8);
        CHECK.due("knows(1, 0)", x.knows(1, 0), 8);
        CHECK.due("knows(0, 1) on day 8", x.knows(0, 1), 38);
        x.noon();
        CHECK.due("knows(0, 1) on day 9", x.knows(0, 1), 9);
    }

    private static void toldByA() {
        CHECK.by("or is told by A;");
        LastToAsk x = Check.laid("r0,0,9;r0,99,9;r0,3,9;s1,1;");
        int[] agos = {0, 99, 3};
        for (int day = 0; day < 11; day++) {
            for (int i = 0; i < 3; i++) {
                for (int j = 0; j < 3; j++) {
                    CHECK.due("knows(" + i + ", " + j + ") on day " + day, x.knows(i, j), agos[j] + day);
                }
            }
            x.noon();
        }
    }

    private static void ofHimself() {
        CHECK.by("of himself all.");
        LastToAsk x = Check.laid("r0,40,9;r0,30,9;s1,1;");
        CHECK.due("knows(0, 0) by A", x.knows(0, 0), 40);
        x.say(0, 0);
        for (int day = 0; day < 12; day++) {
            CHECK.due("knows(0, 0) on day " + day, x.knows(0, 0), day);
            CHECK.due("knows(1, 1) on day " + day, x.knows(1, 1), 30 + day);
            x.noon();
        }
    }

    private static void knows() {
        CHECK.by("`int knows(int i, int j)`: How many days ago i KNOWS that j asked last. BAD.");
        LastToAsk x = Check.laid("r0,40,2;r0,30,0;s1,1;s1,1;s1,1;");
        int[] far = {-1, 2, 3, 6, 32, Integer.MAX_VALUE, Integer.MIN_VALUE};
        for (int i : far) {
            CHECK.due("knows(" + i + ", 0)", x.knows(i, 0), BAD);
            CHECK.due("knows(0, " + i + ")", x.knows(0, i), BAD);
            CHECK.due("knows(" + i + ", " + i + ")", x.knows(i, i), BAD);
        }
        x.say(1, 0);
        Check.noons(x, 2);
        CHECK.due("knows(0, 1)", x.knows(0, 1), 2);
        x.undo();
        CHECK.due("knows(0, 1), a noon undone", x.knows(0, 1), 31);
        x.noon();
        x.noon();
        x.say(1, 0);
        x.keep();
        Check.noons(x, 2);
        CHECK.due("knows(0, 1) of the newer asking", x.knows(0, 1), 2);
        x.back();
        CHECK.due("knows(0, 1) as kept", x.knows(0, 1), 3);
    }

    /** The last two of six: what is known of each one is undone, and kept, not of the first ones alone. */
    private static void knowsAsItStood() {
        CHECK.by("`int knows(int i, int j)`: How many days ago i KNOWS that j asked last. BAD.");
        LastToAsk x = Check.laid("r0,1,0;r0,2,0;r0,3,0;r0,4,0;r0,5,9;r0,6,3;s1,1;");
        x.say(5, 0);
        x.say(4, 0);
        Check.noons(x, 2);
        x.keep();
        x.noon();
        CHECK.due("knows(5, 4)", x.knows(5, 4), 3);
        x.undo();
        CHECK.due("knows(5, 4), a noon undone", x.knows(5, 4), 7);
        Check.noons(x, 7);
        CHECK.due("knows(4, 5)", x.knows(4, 5), 9);
        x.back();
        CHECK.due("knows(5, 4), as kept", x.knows(5, 4), 7);
        CHECK.due("knows(4, 5), as kept", x.knows(4, 5), 8);
        CHECK.due("knows(0, 5), as kept", x.knows(0, 5), 2);
        x.noon();
        CHECK.due("knows(5, 4), a day later", x.knows(5, 4), 3);
    }

    private static void allKnowing() {
        CHECK.by("ALL KNOW: in how many days from now all KNOW of all when they asked last (0: now), nobody asking.");
        for (int mail = 0; mail <= 9; mail++) {
            LastToAsk x = Check.laid("r0,40,9;r0,30," + mail + ";r0,0,0;s1,1;");
            CHECK.due("all is told by A", x.allKnow(), 0);
            x.say(0, 0);
            for (int ago = 0; ago <= 10; ago++) {
                CHECK.due("allKnow(): mails of " + mail + " days to 1, 0 asked " + ago + " days ago", x.allKnow(),
                        Math.max(0, mail - ago));
                x.noon();
            }
        }
        LastToAsk y = Check.laid("r0,40,5;r0,30,3;s1,1;");
        y.say(1, 0);
        CHECK.due("0 waits for five days", y.allKnow(), 5);
        Check.noons(y, 3);
        y.say(0, 0);
        CHECK.due("1 waits for three days, 0 for two", y.allKnow(), 3);
        y.noon();
        y.say(1, 0);
        CHECK.due("0 waits for the newer asking", y.allKnow(), 5);
        Check.noons(y, 5);
        CHECK.due("all know", y.allKnow(), 0);
    }

    private static void allKnow() {
        CHECK.by("`int allKnow()`: ALL KNOW.");
        LastToAsk x = Check.laid("r0,40,0;r0,30,0;s1,1;");
        CHECK.due("mails of 0 days, nobody asked", x.allKnow(), 0);
        x.say(0, 0);
        x.say(1, 0);
        CHECK.due("mails of 0 days", x.allKnow(), 0);
        Check.noons(x, 3);
        CHECK.due("mails of 0 days, three days ago", x.allKnow(), 0);
        LastToAsk y = Check.laid("r0,40,9;r0,30,9;s1,1;");
        y.say(0, 0);
        CHECK.due("mails of 9 days", y.allKnow(), 9);
        y.undo();
        CHECK.due("the asking undone", y.allKnow(), 0);
        y.keep();
        y.say(0, 0);
        y.noon();
        CHECK.due("a day later", y.allKnow(), 8);
        y.back();
        CHECK.due("as kept", y.allKnow(), 0);
    }
}
