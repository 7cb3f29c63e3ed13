/** Promises 10 to 13: what is said, noons, the deed mended, what is undone. */
public final class DaysTest {
    private static final Check CHECK = new Check("days");
    private static final int BAD = -1, NO = -2, FULL = -3, NONE = -4;

    public static void main(String[] args) {
        saying();
        noons();
        noonsInRow();
        mending();
        undoing();
        undoingAll();
        CHECK.close();
    }

    private static void saying() {
        LastToAsk x = Check.laid("r0,9,1;r3,5,2;r4,70,0;s1,1;s2,0;s2,1;d1;");
        int[][] wrong = {{3, 0}, {-1, 0}, {0, 3}, {0, -1}, {6, 0}, {0, 8}, {Integer.MAX_VALUE, 0},
            {0, Integer.MIN_VALUE}};
        for (int[] w : wrong) {
            CHECK.due("say(" + w[0] + ", " + w[1] + ")", x.say(w[0], w[1]), BAD);
        }
        CHECK.due("nothing said", x.count(10), 0);
        CHECK.due("nothing to be undone", x.count(7), 0);
        CHECK.due("say(0, 1)", x.say(0, 1), 0);
        CHECK.due("AGO stays", x.relative(0, 1), 9);
        CHECK.due("said today", x.count(10), 1);
        CHECK.due("say(1, 2), a child's question", x.say(1, 2), 1);
        CHECK.due("AGO of the child", x.relative(1, 1), 0);
        CHECK.due("say(2, 0), abroad", x.say(2, 0), 0);
        CHECK.due("say(0, 0)", x.say(0, 0), 1);
        String full = Check.standing(x);
        CHECK.due("a fifth on a day", x.say(0, 0), FULL);
        CHECK.due("a fifth that is BAD too", x.say(3, 0), BAD);
        CHECK.due("standing behind FULL", Check.standing(x), full);
        CHECK.due("noon()", x.noon(), 2);
        CHECK.due("said today, at first", x.count(10), 0);
        CHECK.due("say(0, 0) on the next day", x.say(0, 0), 1);
    }

    private static void noons() {
        LastToAsk x = Check.laid("r0,3,0;r0,5,0;r0,5,0;s1,1;s1,0;");
        CHECK.due("nobody asked", x.noon(), NONE);
        CHECK.due("the day", x.count(4), 1);
        x.say(0, 1);
        CHECK.due("said, not asking", x.noon(), NONE);
        CHECK.due("whose it is", x.count(5), 0);
        x.say(0, 0);
        CHECK.due("of several the lowest", x.noon(), 1);
        CHECK.due("whose it is", x.count(5), 2);
        CHECK.due("nobody asked: it stays", x.noon(), 1);
        x.say(1, 0);
        CHECK.due("who has it asks", x.noon(), 2);
        x.say(2, 0);
        CHECK.due("who asked two days ahead", x.noon(), 0);
        CHECK.due("the day", x.count(4), 6);
        x.say(0, 0);
        x.say(1, 0);
        x.say(2, 0);
        CHECK.due("all ask on a day: the lowest", x.noon(), 0);
        LastToAsk y = Check.laid("r0,0,0;r0,0,0;s1,1;");
        CHECK.due("A 0 is no asking on day 0", y.noon(), NONE);
        y.say(0, 0);
        CHECK.due("day 1", y.noon(), 1);
    }

    /** 0 asks, then 1, then 0, ..: it is always the other one's. */
    private static void noonsInRow() {
        LastToAsk x = Check.laid("r0,1,0;r2,1,0;s1,1;");
        for (int day = 0; day < 120; day++) {
            CHECK.due("say", x.say(day % 2, 0), 1);
            CHECK.due("noon() of day " + day, x.noon(), 1 - day % 2);
            CHECK.due("the day", x.count(4), day + 1);
        }
    }

    private static void mending() {
        LastToAsk x = Check.laid("r0,9,1;r0,5,2;s1,1;s4,1;d4;");
        int[] wrong = {-1, 64, Integer.MAX_VALUE, Integer.MIN_VALUE};
        for (int topics : wrong) {
            CHECK.due("mend(" + topics + ")", x.mend(topics), BAD);
        }
        CHECK.due("nothing to be undone", x.count(7), 0);
        CHECK.due("mend(63)", x.mend(63), 4);
        CHECK.due("mend(0)", x.mend(0), 63);
        CHECK.due("nothing is asking", x.say(0, 1), 0);
        CHECK.due("mend(1)", x.mend(1), 0);
        CHECK.due("mend(1), the same", x.mend(1), 1);
        CHECK.due("to be undone", x.count(7), 5);
        CHECK.due("from now on", x.say(0, 0), 1);
        CHECK.due("not what was asking", x.say(1, 1), 0);
        x.mend(0);
        CHECK.due("what was asked stays", x.noon(), 1);
        CHECK.due("it is not mended by a noon", x.count(2), 0);
    }

    private static void undoing() {
        LastToAsk x = Check.laid("r0,9,0;r0,5,0;r4,1,3;s1,1;s1,0;d1;");
        String first = Check.standing(x);
        x.say(0, 0);
        CHECK.due("undo() of a saying", x.undo(), 0);
        CHECK.due("standing", Check.standing(x), first);
        CHECK.due("undo() of nothing", x.undo(), NO);
        x.say(1, 0);
        String said = Check.standing(x);
        x.noon();
        String noon = Check.standing(x);
        CHECK.due("mend(6)", x.mend(6), 1);
        CHECK.due("undo() of mending", x.undo(), 2);
        CHECK.due("standing", Check.standing(x), noon);
        CHECK.due("undo() of a noon", x.undo(), 1);
        CHECK.due("standing", Check.standing(x), said);
        CHECK.due("noon() again", x.noon(), 0);
        CHECK.due("standing", Check.standing(x), noon);
        x.undo();
        x.undo();
        CHECK.due("standing", Check.standing(x), first);
        CHECK.due("what is not asking is undone too", x.say(0, 1), 0);
        CHECK.due("undo()", x.undo(), 0);
        CHECK.due("standing", Check.standing(x), first);
        x.say(0, 0);
        Check.noons(x, 4);
        x.say(0, 0);
        CHECK.due("knows(2, 0) by mails of 3 days", x.knows(2, 0), 4);
        x.undo();
        CHECK.due("AGO as it was", x.relative(0, 1), 4);
        x.undo();
        x.undo();
        CHECK.due("knows(2, 0) two noons ahead", x.knows(2, 0), 11);
        x.noon();
        CHECK.due("knows(2, 0) a noon later", x.knows(2, 0), 3);
    }

    private static void undoingAll() {
        LastToAsk x = Check.laid("r0,9,0;r0,5,0;s1,1;s1,0;d1;");
        String[] before = new String[12];
        for (int k = 0; k < 12; k++) {
            before[k] = Check.standing(x);
            if (k % 3 == 0) {
                x.say(k % 2, k % 2);
            } else if (k % 3 == 1) {
                x.noon();
            } else {
                x.mend(k);
            }
        }
        CHECK.due("eight can be undone", x.count(7), 8);
        for (int k = 11; k >= 4; k--) {
            CHECK.due("undo()", x.undo(), k - 4);
            String stood = before[k].replaceFirst("^((\\d+ ){7})\\d+ ", "$1" + (k - 4) + " ");
            CHECK.due("standing ahead of the latest", Check.standing(x), stood);
        }
        CHECK.due("undo() of a ninth", x.undo(), NO);
        x.mend(33);
        CHECK.due("count(7)", x.count(7), 1);
        CHECK.due("undo() behind NO", x.undo(), 0);
    }
}
