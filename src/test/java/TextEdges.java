/** The edges of terms 1 and of promises 1 to 5: the text, its items, its fault, what is laid. */
final class TextEdges {
    private static final Check CHECK = EdgesTest.CHECK;
    private static final int BAD = -1, NO = -2, FULL = -3, NONE = -4;

    private TextEdges() { }

    static void all() {
        twoHundredLetters();
        figuresAndSigns();
        kinds();
        agos();
        mails();
        sixRelatives();
        topics();
        questions();
        eightSayings();
        deedTopics();
        deedWithout();
        hints();
        hintWithout();
        faultPlace();
        laid();
        laidAtFirst();
        newObject();
        write();
        wipe();
        fault();
        lay();
    }

    private static void right(String text) {
        faultAt(text, NONE);
    }

    private static void wrong(String item) {
        faultAt(item, 0);
        faultAt("s7,1;" + item, 5);
    }

    private static void faultAt(String text, int want) {
        LastToAsk x = new LastToAsk();
        Check.write(x, text);
        CHECK.due("fault() of " + text, x.fault(), want);
    }

    private static void twoHundredLetters() {
        CHECK.by("A TEXT is letters (200 at most), ITEMS one behind the other,");
        LastToAsk x = new LastToAsk();
        Check.write(x, "r0,1,1;r0,2,2;s1,1;" + "d1;".repeat(59) + "d63");
        CHECK.due("the 200th letter", x.write(';'), 200);
        CHECK.due("the 201st letter", x.write('d'), FULL);
        CHECK.due("letters", x.count(9), 200);
        CHECK.due("fault() of 200 letters", x.fault(), NONE);
        CHECK.due("lay() of 200 letters", x.lay(), 2);
        CHECK.due("the item at the end of 200 letters counts", x.count(2), 63);
        LastToAsk y = new LastToAsk();
        Check.write(y, "d1;".repeat(66) + "d1");
        CHECK.due("fault() of an item that 200 letters cut off", y.fault(), 198);
        faultAt("d1; d1;", 3);
        faultAt("d1,d1;", 0);
    }

    private static void figuresAndSigns() {
        CHECK.by("each a letter, then numbers (one or two figures) parted by , and a ; behind the last one:");
        String[] right = {"r1,2,3;", "r01,02,03;", "r1,22,3;", "s1,1;", "s12,01;", "d1;", "d12;", "h1;", "h01;"};
        for (String item : right) {
            right(item);
        }
        String[] wrong = {"r,2,3;", "r1,,3;", "r1,2,;", "r001,2,3;", "r1,002,3;", "r1,2,003;", "s,1;", "s1,;",
            "s012,1;", "s1,001;", "d;", "d012;", "h;", "h001;", "r1,2;", "r1;", "r1,2,3,4;", "s1;", "s1,1,1;",
            "d1,1;", "h1,1;", "r1,2,3", "r1,2,3,", "r1,2,3,;", "s1,1", "d1", "d12", "d", "h1", "h", "r1;2;3;",
            "r1,2;3;", "r1.2.3;", "d1:", "d1,", "1;", ";", ",", " d1;", "d 1;", "d1 ;", "dd1;", "d-1;", "d+1;",
            "d1x;", "dx;", "D1;", "R1,2,3;", "S1,1;", "H1;", "x1;", "q1,1;", "t1,1;", "e1;", "g1;", "i1;"};
        for (String item : wrong) {
            wrong(item);
        }
    }

    private static void kinds() {
        CHECK.by("rK,A,M a RELATIVE of KIND K (0 PLAIN, 1 AUNT, 2 COUSIN, 3 CHILD, 4 ABROAD),");
        String[] wrong = {"r5,1,1;", "r6,1,1;", "r9,1,1;", "r10,1,1;", "r40,1,1;", "r99,1,1;", "r-1,1,1;"};
        for (String item : wrong) {
            wrong(item);
        }
        LastToAsk x = Check.laid("r0,1,1;r1,1,1;r2,1,1;r3,1,1;r4,1,1;r04,1,1;s1,1;");
        for (int i = 0; i <= 4; i++) {
            CHECK.due("KIND of " + i, x.relative(i, 0), i);
        }
        CHECK.due("KIND 04", x.relative(5, 0), 4);
    }

    private static void agos() {
        CHECK.by("who asked last A (0 to 99) days ahead of day 0,");
        wrong("r0,100,1;");
        wrong("r0,-1,1;");
        LastToAsk x = Check.laid("r0,0,1;r0,99,1;r0,00,1;r0,09,1;s1,1;");
        int[] due = {0, 99, 0, 9};
        for (int i = 0; i < due.length; i++) {
            CHECK.due("A of " + i, x.relative(i, 1), due[i]);
        }
        x.say(2, 0);
        CHECK.due("who asked 99 days ahead of day 0", x.noon(), 1);
        CHECK.due("100 days ago", x.relative(1, 1), 100);
    }

    private static void mails() {
        CHECK.by("to whom mails take M (0 to 9) days;");
        String[] wrong = {"r0,1,10;", "r0,1,11;", "r0,1,99;", "r0,1,-1;"};
        for (String item : wrong) {
            wrong(item);
        }
        LastToAsk x = Check.laid("r0,1,0;r0,1,9;r0,1,09;r0,1,00;s1,1;");
        int[] due = {0, 9, 9, 0};
        for (int i = 0; i < due.length; i++) {
            CHECK.due("M of " + i, x.relative(i, 2), due[i]);
        }
    }

    private static void sixRelatives() {
        CHECK.by("6 at most, 0, 1, ..");
        String six = "r0,0,0;r0,1,1;r0,2,2;r0,3,3;r0,4,4;r1,5,5;";
        right(six);
        right(six + "s1,1;");
        faultAt(six + "r0,6,6;", 42);
        faultAt(six + "s1,1;d1;r0,6,6;r5,5,5;", 50);
        LastToAsk x = Check.laid(six + "s1,1;");
        CHECK.due("RELATIVES", x.count(0), 6);
        for (int i = 0; i < 6; i++) {
            CHECK.due("A of " + i, x.relative(i, 1), i);
        }
        CHECK.due("KIND of the sixth", x.relative(5, 0), 1);
        CHECK.due("a seventh", x.relative(6, 0), BAD);
    }

    private static void topics() {
        CHECK.by("sT,Q a SAYING of TOPICS T (0 to 63, as bits),");
        String[] wrong = {"s64,1;", "s65,0;", "s99,1;", "s100,1;", "s-1,1;"};
        for (String item : wrong) {
            wrong(item);
        }
        LastToAsk x = Check.laid("r0,1,1;r2,1,1;s0,1;s63,1;s32,0;s01,0;d32;");
        int[] due = {0, 63, 32, 1};
        for (int s = 0; s < due.length; s++) {
            CHECK.due("TOPICS of " + s, x.saying(s, 0), due[s]);
            CHECK.due("a topic of 32 in " + s, x.asking(s, 1), due[s] / 32);
        }
    }

    private static void questions() {
        CHECK.by("that is a QUESTION (Q 1) or not (0);");
        String[] wrong = {"s1,2;", "s1,3;", "s1,9;", "s1,10;", "s1,11;", "s1,-1;"};
        for (String item : wrong) {
            wrong(item);
        }
        LastToAsk x = Check.laid("r0,1,1;r0,1,1;s1,0;s1,1;s1,00;s1,01;");
        for (int s = 0; s < 4; s++) {
            CHECK.due("Q of " + s, x.saying(s, 1), s % 2);
        }
    }

    private static void eightSayings() {
        CHECK.by("8 at most, 0, 1, ..");
        String eight = "s1,1;s2,0;s3,1;s4,0;s5,1;s6,0;s7,1;s8,0;";
        right(eight);
        right(eight + "r0,1,1;r0,2,2;");
        faultAt(eight + "s9,1;", 40);
        faultAt(eight + "r0,1,1;s9,1;s64,1;", 47);
        LastToAsk x = Check.laid("r0,1,1;r0,2,2;" + eight);
        CHECK.due("SAYINGS", x.count(1), 8);
        for (int s = 0; s < 8; s++) {
            CHECK.due("TOPICS of " + s, x.saying(s, 0), s + 1);
        }
        CHECK.due("a ninth", x.saying(8, 0), BAD);
    }

    private static int deedOf(String items) {
        return Check.laid("r0,1,1;r0,2,2;s1,1;" + items).count(2);
    }

    private static void deedTopics() {
        CHECK.by("dT THE DEED: TOPICS T (0 to 63, as bits;");
        String[] wrong = {"d64;", "d65;", "d99;", "d100;", "d-1;"};
        for (String item : wrong) {
            wrong(item);
        }
        CHECK.due("d0;", deedOf("d0;"), 0);
        CHECK.due("d63;", deedOf("d63;"), 63);
        CHECK.due("d09;", deedOf("d09;"), 9);
    }

    private static void deedWithout() {
        CHECK.by("1 without; of several such the last one counts)");
        CHECK.due("without", deedOf(""), 1);
        CHECK.due("a hint alone", deedOf("h6;"), 1);
        CHECK.due("two", deedOf("d6;d5;"), 5);
        CHECK.due("three, the last of none", deedOf("d6;d5;h2;d0;"), 0);
        CHECK.due("without, behind one of another text", laidBehind("d7;").count(2), 1);
    }

    /** Laid without a deed and a hint, behind a text that had some. */
    private static LastToAsk laidBehind(String items) {
        LastToAsk x = Check.laid("r0,1,1;r0,2,2;s1,1;" + items);
        x.wipe();
        Check.write(x, "r0,1,1;r0,2,2;s1,1;");
        x.lay();
        return x;
    }

    private static int hintOf(String items) {
        return Check.laid("r0,1,1;r0,2,2;s1,1;" + items).count(3);
    }

    private static void hints() {
        CHECK.by("hH a HINT counts from H (1 to 6) TOPICS on");
        String[] wrong = {"h0;", "h00;", "h7;", "h8;", "h10;", "h63;", "h99;", "h-1;"};
        for (String item : wrong) {
            wrong(item);
        }
        for (int h = 1; h <= 6; h++) {
            CHECK.due("h" + h, hintOf("h" + h + ";"), h);
            CHECK.due("h0" + h, hintOf("h0" + h + ";"), h);
        }
    }

    private static void hintWithout() {
        CHECK.by("(3 without; of several such the last one counts)");
        CHECK.due("without", hintOf(""), 3);
        CHECK.due("a deed alone", hintOf("d5;"), 3);
        CHECK.due("two", hintOf("h6;h1;"), 1);
        CHECK.due("three", hintOf("h1;h2;d1;h6;"), 6);
        CHECK.due("without, behind one of another text", laidBehind("h6;").count(3), 3);
    }

    private static void faultPlace() {
        CHECK.by("FAULT: the place of the first letter of the first ITEM that is not so.");
        faultAt("r0,1,10;", 0);
        faultAt("d1;r0,1,10;", 3);
        faultAt("r0,1,1;s1,1;d1;h7;", 15);
        faultAt("r0,1,1;s1,1;d1;h7", 15);
        faultAt("r0,1,1;s1,2;d64;h7;", 7);
        faultAt("r0,1,1;s1,2;d1;h1;", 7);
        faultAt("d1;h0;d64;", 3);
        faultAt("d1;d", 3);
        faultAt("d1;d1", 3);
        faultAt("d01;d01;d01;x", 12);
        right("d1;d1;");
    }

    private static void laid() {
        CHECK.by("LAID is a TEXT without FAULT, of 2 RELATIVES and a SAYING at least (NO else;");
        String[] none = {"", "r0,1,1;s1,1;", "s1,1;s2,1;", "r0,1,1;r0,2,2;", "r0,1,1;r0,2,2;d1;h1;", "r0,1,1;",
            "s1,1;", "d1;", "r0,1,1;r0,2,2;s1,1;x", "xr0,1,1;r0,2,2;s1,1;", "r0,1,1;r0,2,2;s1,1",
            "r0,1,1;r0,2,2;s1,1;h7;", "r0,1,1;r5,2,2;r0,2,2;s1,1;"};
        for (String text : none) {
            LastToAsk x = new LastToAsk();
            Check.write(x, text);
            CHECK.due("lay() of " + text, x.lay(), NO);
            CHECK.due("what was laid stays: RELATIVES", x.count(0), 5);
            CHECK.due("what was laid stays: SAYINGS", x.count(1), 6);
        }
        LastToAsk x = new LastToAsk();
        Check.write(x, "s1,1;r0,2,2;r0,1,1;");
        CHECK.due("lay() of two and one, nothing else", x.lay(), 2);
        CHECK.due("in the text's order", x.relative(0, 1), 2);
    }

    private static void laidAtFirst() {
        String first = "r0,40,1;r1,12,2;r2,55,0;r3,3,1;r4,70,9;s1,1;s6,0;s5,1;s14,0;s8,1;s3,0;d5;h2;";
        CHECK.by("at first " + first + ").");
        LastToAsk x = new LastToAsk();
        LastToAsk y = Check.laid(first);
        y.wipe();
        CHECK.due("all as of that text", Check.everything(x), Check.everything(y));
    }

    private static void newObject() {
        CHECK.by("`LastToAsk()`: As told.");
        LastToAsk x = new LastToAsk();
        int[] due = {5, 6, 5, 2, 0, 0, 0, 0, 0, 0, 0};
        for (int what = 0; what < due.length; what++) {
            CHECK.due("count(" + what + ")", x.count(what), due[what]);
        }
        x.say(0, 0);
        x.noon();
        x.keep();
        x.write('d');
        x.took(1, 4);
        LastToAsk y = new LastToAsk();
        for (int what = 0; what < due.length; what++) {
            CHECK.due("count(" + what + ") of another new one", y.count(what), due[what]);
        }
        CHECK.due("the constructor's constants", LastToAsk.BAD * 1000 + LastToAsk.NO * 100 + LastToAsk.FULL * 10
                + LastToAsk.NONE, -1234);
    }

    private static void write() {
        CHECK.by("`int write(int letter)`: A letter (32 to 126, as in ASCII) comes behind THE TEXT: how long it is. "
                + "BAD; FULL.");
        LastToAsk x = new LastToAsk();
        int[] wrong = {31, 127, 128, 0, 10, -1, -32, 255, 256 + 32, 65536 + 32, Integer.MAX_VALUE, Integer.MIN_VALUE};
        for (int letter : wrong) {
            CHECK.due("write(" + letter + ")", x.write(letter), BAD);
        }
        CHECK.due("write(32)", x.write(32), 1);
        CHECK.due("write(126)", x.write(126), 2);
        for (int k = 3; k <= 200; k++) {
            CHECK.due("write(100)", x.write(100), k);
        }
        CHECK.due("the 201st letter", x.write(100), FULL);
        CHECK.due("the 201st letter, BAD too", x.write(31), BAD);
        CHECK.due("letters", x.count(9), 200);
    }

    private static void wipe() {
        CHECK.by("`int wipe()`: THE TEXT is empty: how long it was.");
        LastToAsk x = new LastToAsk();
        CHECK.due("wipe() of an empty one", x.wipe(), 0);
        Check.write(x, "d1;".repeat(66) + "d1");
        CHECK.due("wipe() of a full one", x.wipe(), 200);
        CHECK.due("letters", x.count(9), 0);
        CHECK.due("fault()", x.fault(), NONE);
        CHECK.due("write(120)", x.write('x'), 1);
        CHECK.due("fault() of the letters behind wipe() alone", x.fault(), 0);
        CHECK.due("wipe() of one letter", x.wipe(), 1);
        CHECK.due("what was laid stays", x.count(0), 5);
    }

    private static void fault() {
        CHECK.by("`int fault()`: FAULT. NONE.");
        LastToAsk x = new LastToAsk();
        CHECK.due("fault() of an empty text", x.fault(), NONE);
        Check.write(x, "d1;");
        CHECK.due("fault() of one item", x.fault(), NONE);
        x.write('d');
        CHECK.due("fault() of an item begun", x.fault(), 3);
        Check.write(x, "2;");
        CHECK.due("fault() of it ended", x.fault(), NONE);
        CHECK.due("the deed is not laid by fault()", x.count(2), 5);
    }

    private static void lay() {
        CHECK.by("`int lay()`: LAID: how many RELATIVES; day 0, nothing SAID, nothing TOOK, UNDONE, KEPT; "
                + "THE TEXT stays. NO.");
        LastToAsk x = Check.laid("r0,9,1;r2,5,2;s1,1;d3;h2;");
        String first = Check.everything(x);
        x.say(0, 0);
        x.noon();
        x.say(1, 0);
        x.mend(5);
        x.took(1, 0);
        x.keep();
        x.keep();
        CHECK.due("lay() anew", x.lay(), 2);
        CHECK.due("day", x.count(4), 0);
        CHECK.due("nobody's", x.count(5), 0);
        CHECK.due("TOOK", x.count(6), 0);
        CHECK.due("UNDONE", x.count(7), 0);
        CHECK.due("KEPT", x.count(8), 0);
        CHECK.due("letters", x.count(9), 25);
        CHECK.due("SAID today", x.count(10), 0);
        CHECK.due("undo()", x.undo(), NO);
        CHECK.due("back()", x.back(), NO);
        CHECK.due("all as at first", Check.everything(x), first);
        x.noon();
        x.noon();
        x.took(1, 1);
        CHECK.due("what was SAID on day 0 is no more: no deed makes it 1's", x.deeds(0), 0);
        x.forget();
        x.took(2, 0);
        CHECK.due("what was SAID on day 1 is no more: no deed makes it 0's", x.deeds(0), 0);
        x.write('x');
        CHECK.due("lay() of a fault", x.lay(), NO);
    }
}
