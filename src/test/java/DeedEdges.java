/** The edges of the first half of terms 4 and of promises 19 to 23: what TOOK tells, deeds, quiet sayings, cloaks. */
final class DeedEdges {
    private static final Check CHECK = EdgesTest.CHECK;
    private static final int BAD = -1, FULL = -3, NONE = -4;
    private static final int[] FAR = {-1, -2, 9, 32, 33, 64, Integer.MAX_VALUE, Integer.MIN_VALUE};

    private DeedEdges() { }

    static void all() {
        sixToldAtMost();
        noonsOneToTen();
        toldStays();
        deedsOfAllSets();
        deedsNeverMended();
        saidOnDaysZeroToNine();
        saidLikewise();
        howManyTheLowestNone();
        quiets();
        cloaks();
        cloakNone();
        took();
        forget();
        deeds();
        quiet();
        cloak();
    }

    private static LastToAsk two() {
        return Check.laid("r0,9,0;r0,5,0;s1,1;s2,1;s1,0;d1;");
    }

    private static void deeds(LastToAsk x, int many, int lowest) {
        CHECK.due("deeds(0)", x.deeds(0), many);
        CHECK.due("deeds(1)", x.deeds(1), lowest);
    }

    private static void sixToldAtMost() {
        CHECK.by("TOOK (6 at most) is that THE FORTUNE was one's behind the t-th noon");
        LastToAsk x = two();
        x.say(0, 0);
        x.noon();
        for (int k = 1; k <= 6; k++) {
            CHECK.due("told", x.took(1, k / 6), k);
        }
        CHECK.due("a seventh", x.took(1, 1), FULL);
        CHECK.due("TOOK tells", x.count(6), 6);
        deeds(x, 0, NONE);
        x.forget();
        CHECK.due("told anew", x.took(1, 1), 1);
        deeds(x, 32, 1);
    }

    private static void noonsOneToTen() {
        CHECK.by("(1 to 10; 1 that of day 0;");
        LastToAsk x = two();
        CHECK.due("day 0: took(1, 0)", x.took(1, 0), BAD);
        x.say(0, 0);
        x.noon();
        CHECK.due("took(0, 1)", x.took(0, 1), BAD);
        CHECK.due("took(2, 1)", x.took(2, 1), BAD);
        CHECK.due("took(1, 1): that of day 0", x.took(1, 1), 1);
        deeds(x, 32, 1);
        x.say(1, 1);
        x.noon();
        // saying 1 was not asking: it is 1's still, of the second noon
        CHECK.due("took(2, 1)", x.took(2, 1), 2);
        deeds(x, 16, 1);
        for (int noon = 3; noon <= 12; noon++) {
            x.noon();
            CHECK.due("took(" + noon + ", 1)", x.took(noon, 1), noon > 10 ? BAD : noon > 6 ? FULL : noon);
        }
        CHECK.due("TOOK tells", x.count(6), 6);
    }

    private static void toldStays() {
        CHECK.by("it stays, if that noon is UNDONE).");
        LastToAsk x = two();
        x.say(0, 0);
        x.noon();
        x.took(1, 1);
        x.undo();
        CHECK.due("TOOK tells", x.count(6), 1);
        CHECK.due("nothing more can be told of that noon", x.took(1, 1), BAD);
        deeds(x, 32, 1);
        x.undo();
        CHECK.due("TOOK tells, the saying undone", x.count(6), 1);
        deeds(x, 0, NONE);
        x.say(0, 1);
        x.noon();
        deeds(x, 32, 2);
        CHECK.due("told of the noon that came instead", x.took(1, 1), 2);
    }

    private static void deedsOfAllSets() {
        CHECK.by("DEEDS: of all 64 sets of TOPICS those such that, had THE DEED been that from day 0 on");
        deeds(two(), 64, 0);
        LastToAsk x = Check.laid("r0,9,0;r0,5,0;s32,1;s1,1;d32;");
        x.say(0, 0);
        x.noon();
        x.took(1, 1);
        deeds(x, 32, 32);
        LastToAsk y = Check.laid("r3,9,0;r3,5,0;s0,1;d0;");
        y.say(0, 0);
        y.noon();
        y.took(1, 1);
        deeds(y, 64, 0);
        y.took(1, 0);
        deeds(y, 0, NONE);
    }

    private static void deedsNeverMended() {
        CHECK.by("(never MENDED),");
        LastToAsk x = two();
        x.mend(2);
        x.say(0, 1);
        x.mend(1);
        x.noon();
        x.say(1, 0);
        x.mend(4);
        x.noon();
        x.took(1, 1);
        x.took(2, 0);
        deeds(x, 16, 3);
        CHECK.due("THE DEED stays", x.count(2), 4);
    }

    private static void saidOnDaysZeroToNine() {
        CHECK.by("all that was SAID on days 0 to 9 being SAID likewise,");
        LastToAsk x = two();
        x.say(0, 0);
        Check.noons(x, 9);
        Check.say(x, 1, 2, 3);
        x.say(1, 1);
        x.noon();
        x.took(1, 1);
        deeds(x, 32, 1);
        x.forget();
        // the last of four sayings of day 9 was asking, or it was not
        x.took(10, 0);
        deeds(x, 32, 2);
        x.forget();
        x.took(10, 1);
        deeds(x, 16, 1);
        Check.say(x, 0, 0, 2);
        Check.say(x, 0, 1, 2);
        Check.noons(x, 2);
        deeds(x, 16, 1);
        LastToAsk y = two();
        Check.noons(y, 10);
        Check.say(y, 0, 0, 4);
        y.noon();
        y.took(10, 1);
        CHECK.due("day 10 is too late", y.deeds(0), 0);
    }

    /** What is said on a day again, or kept, has to be what the deeds are tried with. */
    private static void saidLikewise() {
        CHECK.by("all that was SAID on days 0 to 9 being SAID likewise,");
        LastToAsk x = two();
        Check.noons(x, 9);
        Check.say(x, 0, 2, 3);
        x.say(0, 1);
        x.keep();
        x.undo();
        x.say(1, 0);
        x.noon();
        x.took(10, 1);
        deeds(x, 0, NONE);
        x.back();
        deeds(x, 32, 2);
        x.forget();
        x.noon();
        x.took(10, 1);
        x.undo();
        x.say(0, 0);
        CHECK.due("a fifth was refused: day 9", x.count(10), 4);
        deeds(x, 32, 2);
        LastToAsk y = two();
        for (int day = 0; day < 7; day++) {
            y.say(day % 2, 0);
            y.noon();
        }
        Check.say(y, 1, 0, 2);
        y.undo();
        y.undo();
        y.say(1, 1);
        y.noon();
        y.took(8, 0);
        // only by what 1 said on day 7 instead, of topic 2, is it 0's behind the eighth noon
        deeds(y, 32, 2);
    }

    private static void howManyTheLowestNone() {
        CHECK.by("all that TOOK tells would be so: how many; the lowest; none.");
        LastToAsk x = Check.laid("r0,9,0;r0,5,0;s1,1;s2,1;s4,1;s8,1;s16,1;s32,1;d63;");
        for (int day = 0; day < 6; day++) {
            x.say(day % 2, day);
            CHECK.due("noon() of day " + day, x.noon(), 1 - day % 2);
            x.took(day + 1, 1 - day % 2);
            deeds(x, 32 >> day, (2 << day) - 1);
        }
        x.forget();
        deeds(x, 64, 0);
        x.took(1, 0);
        deeds(x, 0, NONE);
        x.took(1, 1);
        deeds(x, 0, NONE);
        LastToAsk y = two();
        Check.noons(y, 2);
        y.took(2, 0);
        // nobody's it was, by each deed
        deeds(y, 0, NONE);
    }

    private static void quiets() {
        CHECK.by("QUIET: SAYINGS (bits) that are ASKING by none of the RELATIVES.");
        LastToAsk x = Check.laid("r0,9,0;r4,5,0;s1,1;s1,0;s2,1;s2,0;s0,1;s63,0;s63,1;s3,1;d1;h1;");
        CHECK.due("of plain ones", x.quiet(), 255 - 1 - 64 - 128);
        x.mend(0);
        CHECK.due("no deed", x.quiet(), 255);
        x.mend(63);
        CHECK.due("every deed", x.quiet(), 2 + 8 + 16 + 32);
        CHECK.due("none", Check.laid("r4,9,0;r2,5,0;s1,1;s3,0;").quiet(), 0);
        CHECK.due("the last relative asks", Check.laid("r4,9,0;r4,5,0;r3,5,0;s2,1;s2,0;").quiet(), 2);
        CHECK.due("the first relative asks", Check.laid("r3,9,0;r4,5,0;r4,5,0;s2,1;s2,0;").quiet(), 2);
    }

    private static void cloak(LastToAsk x, int i, int which, int many) {
        CHECK.due("cloak(" + i + ", 0)", x.cloak(i, 0), which);
        CHECK.due("cloak(" + i + ", 1)", x.cloak(i, 1), many);
    }

    private static void cloaks() {
        CHECK.by("CLOAK for one: of SAYINGS that are not ASKING by him the one of most TOPICS that are of THE DEED, "
                + "of several the lowest; how many;");
        LastToAsk x = Check.laid("r0,9,0;r1,9,0;r2,9,0;r3,9,0;r4,9,0;s56,0;s1,0;s3,0;s6,0;s7,0;s7,1;d7;h3;");
        cloak(x, 0, 4, 3);
        cloak(x, 1, 2, 2);
        cloak(x, 2, 0, 0);
        cloak(x, 3, 4, 3);
        cloak(x, 4, 4, 3);
        x.mend(63);
        // 56 has as many topics as 7, and is the lower one
        cloak(x, 0, 0, 3);
        cloak(x, 4, 0, 3);
        x.mend(4);
        cloak(x, 0, 3, 1);
        cloak(x, 1, 3, 1);
        x.mend(0);
        cloak(x, 0, 0, 0);
        cloak(x, 3, 0, 0);
    }

    private static void cloakNone() {
        CHECK.by("how many; none.");
        LastToAsk x = Check.laid("r3,9,0;r2,5,0;s1,1;s2,1;d3;");
        cloak(x, 0, NONE, NONE);
        cloak(x, 1, NONE, NONE);
        x.mend(1);
        cloak(x, 0, NONE, NONE);
        cloak(x, 1, 1, 0);
    }

    private static void took() {
        CHECK.by("`int took(int t, int i)`: TOOK: how many. BAD (of a noon that there was not, too); FULL.");
        LastToAsk x = two();
        Check.noons(x, 4);
        for (int far : FAR) {
            CHECK.due("took(" + far + ", 0)", x.took(far, 0), BAD);
            CHECK.due("took(1, " + far + ")", x.took(1, far), BAD);
        }
        CHECK.due("took(0, 0)", x.took(0, 0), BAD);
        CHECK.due("took(5, 0): a noon that there was not", x.took(5, 0), BAD);
        CHECK.due("took(4, 2)", x.took(4, 2), BAD);
        CHECK.due("took(4, 1)", x.took(4, 1), 1);
        CHECK.due("took(1, 0)", x.took(1, 0), 2);
        CHECK.due("took(1, 0) as before", x.took(1, 0), 3);
        Check.noons(x, 7);
        CHECK.due("took(10, 0)", x.took(10, 0), 4);
        CHECK.due("took(11, 0): there was that one", x.took(11, 0), BAD);
        x.took(1, 0);
        x.took(1, 0);
        CHECK.due("a seventh", x.took(10, 0), FULL);
        CHECK.due("a seventh that is BAD", x.took(11, 0), BAD);
    }

    private static void forget() {
        CHECK.by("`int forget()`: Nothing TOOK: how many told.");
        LastToAsk x = two();
        CHECK.due("nothing told", x.forget(), 0);
        x.noon();
        for (int k = 0; k < 6; k++) {
            x.took(1, 0);
        }
        CHECK.due("six told", x.forget(), 6);
        CHECK.due("TOOK tells", x.count(6), 0);
        deeds(x, 64, 0);
        CHECK.due("forgotten already", x.forget(), 0);
    }

    private static void deeds() {
        CHECK.by("`int deeds(int what)`: DEEDS: how many (what = 0), the lowest (1; NONE). BAD.");
        LastToAsk x = two();
        int[] wrong = {-1, 2, 3, Integer.MAX_VALUE, Integer.MIN_VALUE};
        for (int what : wrong) {
            CHECK.due("deeds(" + what + ")", x.deeds(what), BAD);
        }
        deeds(x, 64, 0);
        x.noon();
        x.took(1, 0);
        deeds(x, 0, NONE);
        CHECK.due("deeds(2) of none", x.deeds(2), BAD);
    }

    private static void quiet() {
        CHECK.by("`int quiet()`: QUIET, as bits.");
        CHECK.due("eight", Check.laid("r4,9,0;r4,5,0;s1,1;s1,1;s1,1;s1,1;s1,1;s1,1;s1,1;s1,1;").quiet(), 255);
        CHECK.due("one", Check.laid("r4,9,0;r4,5,0;s1,1;").quiet(), 1);
        CHECK.due("none", Check.laid("r3,9,0;r4,5,0;s1,1;").quiet(), 0);
    }

    private static void cloak() {
        CHECK.by("`int cloak(int i, int what)`: CLOAK: which (what = 0), how many (1). NONE; BAD.");
        LastToAsk x = Check.laid("r3,9,0;r2,5,0;s1,1;s2,1;s3,1;d3;");
        for (int far : FAR) {
            CHECK.due("cloak(" + far + ", 0)", x.cloak(far, 0), BAD);
            CHECK.due("cloak(0, " + far + ")", x.cloak(0, far), BAD);
        }
        CHECK.due("cloak(2, 0)", x.cloak(2, 0), BAD);
        CHECK.due("cloak(0, 2)", x.cloak(0, 2), BAD);
        cloak(x, 0, NONE, NONE);
        x.mend(2);
        cloak(x, 1, 0, 0);
    }
}
