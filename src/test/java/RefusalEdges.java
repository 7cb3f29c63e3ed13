import java.lang.reflect.InvocationTargetException;
import java.lang.reflect.Method;

/** The edges of what the document says of BAD, NO, NONE and FULL, for all calls alike. */
final class RefusalEdges {
    private static final Check CHECK = EdgesTest.CHECK;
    private static final int BAD = -1, NO = -2, FULL = -3, NONE = -4;

    /** A call and the lowest and the highest of what each of its numbers can be, one behind the other. */
    private record Bounds(String name, int... bounds) { }

    /** For a family of two relatives and three sayings on day 11. */
    private static final Bounds[] CALLS = {
        new Bounds("write", 32, 126), new Bounds("relative", 0, 1, 0, 4), new Bounds("saying", 0, 2, 0, 1),
        new Bounds("asking", 0, 2, 0, 1), new Bounds("knows", 0, 1, 0, 1), new Bounds("say", 0, 1, 0, 2),
        new Bounds("mend", 0, 63), new Bounds("heir", 0, 1), new Bounds("thinks", 0, 1), new Bounds("make", 0, 1),
        new Bounds("byTurns", 1, 6, 0, 1), new Bounds("took", 1, 10, 0, 1), new Bounds("deeds", 0, 1),
        new Bounds("cloak", 0, 1, 0, 1), new Bounds("lasts", 0, 9, 0, 10, 0, 1),
        new Bounds("year", 0, 9999, 1, 99, 0, 1), new Bounds("count", 0, 10)};

    private RefusalEdges() { }

    static void all() {
        noneThatIsTold();
        notAsThingsStand();
        thereIsNone();
        full();
        firstInThisOrder();
        nothingChanges();
    }

    private static long answer(LastToAsk x, String name, int[] numbers) {
        Class<?>[] types = new Class<?>[numbers.length];
        Object[] values = new Object[numbers.length];
        for (int k = 0; k < numbers.length; k++) {
            types[k] = int.class;
            values[k] = numbers[k];
        }
        try {
            Method method = LastToAsk.class.getMethod(name, types);
            return ((Number) method.invoke(x, values)).longValue();
        } catch (NoSuchMethodException | IllegalAccessException | InvocationTargetException e) {
            throw new IllegalStateException(name, e);
        }
    }

    private static String told(String name, int[] numbers) {
        return name + java.util.Arrays.toString(numbers);
    }

    private static LastToAsk familyOnDayEleven() {
        LastToAsk x = Check.laid("r0,9,1;r3,5,2;s1,1;s2,0;s3,1;d1;");
        x.say(0, 0);
        Check.noons(x, 11);
        x.say(1, 2);
        return x;
    }

    private static void noneThatIsTold() {
        CHECK.by("BAD: a number is none that is told (RELATIVES, SAYINGS: such as there are).");
        for (Bounds call : CALLS) {
            LastToAsk x = familyOnDayEleven();
            String before = Check.everything(x);
            int many = call.bounds().length / 2;
            for (int k = 0; k < many; k++) {
                int lowest = call.bounds()[2 * k];
                int highest = call.bounds()[2 * k + 1];
                int[] wrong = {lowest - 1, highest + 1, Integer.MIN_VALUE, Integer.MAX_VALUE, highest + 256,
                    lowest + 65536};
                for (int number : wrong) {
                    int[] numbers = lowestOf(call);
                    numbers[k] = number;
                    CHECK.due(told(call.name(), numbers), answer(x, call.name(), numbers), BAD);
                }
            }
            CHECK.due("nothing changes by " + call.name(), Check.everything(x), before);
            for (int k = 0; k < many; k++) {
                int[] numbers = lowestOf(call);
                numbers[k] = call.bounds()[2 * k + 1];
                CHECK.due(told(call.name(), numbers) + " is BAD", answer(x, call.name(), numbers) == BAD ? 1 : 0, 0);
            }
            CHECK.due(told(call.name(), lowestOf(call)) + " is BAD",
                    answer(x, call.name(), lowestOf(call)) == BAD ? 1 : 0, 0);
        }
    }

    private static int[] lowestOf(Bounds call) {
        int[] lowest = new int[call.bounds().length / 2];
        for (int k = 0; k < lowest.length; k++) {
            lowest[k] = call.bounds()[2 * k];
        }
        return lowest;
    }

    private static void notAsThingsStand() {
        CHECK.by("NO: not as things stand.");
        LastToAsk x = Check.laid("r0,9,1;r3,5,2;s1,1;");
        x.write('x');
        String before = Check.everything(x);
        CHECK.due("lay() of a fault", x.lay(), NO);
        CHECK.due("undo() of nothing", x.undo(), NO);
        CHECK.due("back() to nothing", x.back(), NO);
        CHECK.due("nothing changes", Check.everything(x), before);
        x.say(1, 0);
        x.mend(2);
        x.keep();
        before = Check.everything(x);
        CHECK.due("lay() of a fault", x.lay(), NO);
        CHECK.due("nothing changes", Check.everything(x), before);
        CHECK.due("what can be undone stays", x.undo(), 1);
        CHECK.due("what is kept stays", x.back(), 0);
        CHECK.due("THE DEED as kept", x.count(2), 2);
    }

    private static void thereIsNone() {
        CHECK.by("NONE: there is none.");
        LastToAsk x = Check.laid("r3,0,1;r3,0,2;s1,1;s2,1;");
        String before = Check.everything(x);
        CHECK.due("fault()", x.fault(), NONE);
        CHECK.due("make(1)", x.make(1), NONE);
        CHECK.due("cloak(0, 0)", x.cloak(0, 0), NONE);
        CHECK.due("cloak(0, 1)", x.cloak(0, 1), NONE);
        CHECK.due("year(1, 1, 0)", x.year(1, 1, 0), NONE);
        CHECK.due("nothing changes", Check.everything(x), before);
        CHECK.due("noon()", x.noon(), NONE);
        CHECK.due("noon() is one all the same", x.count(4), 1);
        CHECK.due("byTurns(6, 0)", x.byTurns(6, 0), NONE);
        x.took(1, 1);
        CHECK.due("deeds(1)", x.deeds(1), NONE);
        CHECK.due("deeds(0) tells how many none is", x.deeds(0), 0);
    }

    private static void full() {
        CHECK.by("FULL.");
        LastToAsk x = Check.laid("r0,9,1;r3,5,2;s1,1;s2,0;");
        x.noon();
        for (int k = 0; k < 6; k++) {
            x.took(1, k % 2);
        }
        Check.say(x, 1, 0, 3);
        x.keep();
        x.say(0, 1);
        x.keep();
        for (int k = 0; k < 176; k++) {
            x.write('d');
        }
        CHECK.due("letters", x.count(9), 200);
        String before = Check.everything(x);
        CHECK.due("write(100)", x.write('d'), FULL);
        CHECK.due("say(0, 0)", x.say(0, 0), FULL);
        CHECK.due("took(1, 0)", x.took(1, 0), FULL);
        CHECK.due("keep()", x.keep(), FULL);
        CHECK.due("nothing changes", Check.everything(x), before);
        CHECK.due("undo() of the fourth", x.undo(), 4);
        CHECK.due("SAID today", x.count(10), 3);
        CHECK.due("back() to the second", x.back(), 1);
        CHECK.due("SAID today", x.count(10), 4);
        CHECK.due("back() to the first", x.back(), 0);
        CHECK.due("SAID today", x.count(10), 3);
    }

    private static void firstInThisOrder() {
        CHECK.by("Of several the first in this order, whatever the order at a call;");
        LastToAsk x = Check.laid("r3,0,1;r3,0,2;s1,1;s2,1;");
        CHECK.due("make(2) is BAD ahead of NONE", x.make(2), BAD);
        CHECK.due("make(-1) is BAD ahead of NONE", x.make(-1), BAD);
        CHECK.due("cloak(0, 2) is BAD ahead of NONE", x.cloak(0, 2), BAD);
        CHECK.due("cloak(2, 0) is BAD ahead of NONE", x.cloak(2, 0), BAD);
        CHECK.due("byTurns(7, 0) is BAD ahead of NONE", x.byTurns(7, 0), BAD);
        CHECK.due("year(1, 0, 0) is BAD ahead of NONE", x.year(1, 0, 0), BAD);
        CHECK.due("year(10000, 1, 0) is BAD ahead of NONE", x.year(10000, 1, 0), BAD);
        x.noon();
        for (int k = 0; k < 6; k++) {
            x.took(1, 1);
        }
        CHECK.due("deeds(2) is BAD ahead of NONE", x.deeds(2), BAD);
        CHECK.due("took(2, 0) is BAD ahead of FULL", x.took(2, 0), BAD);
        CHECK.due("took(1, 2) is BAD ahead of FULL", x.took(1, 2), BAD);
        Check.say(x, 0, 0, 4);
        CHECK.due("say(2, 0) is BAD ahead of FULL", x.say(2, 0), BAD);
        CHECK.due("say(0, 2) is BAD ahead of FULL", x.say(0, 2), BAD);
        for (int k = 0; k < 200; k++) {
            x.write('d');
        }
        CHECK.due("write(31) is BAD ahead of FULL", x.write(31), BAD);
        CHECK.due("write(127) is BAD ahead of FULL", x.write(127), BAD);
    }

    /** What cannot be seen at once is looked at by what it comes to: what is undone, what is kept, what was said. */
    private static void nothingChanges() {
        CHECK.by("nothing changes then.");
        LastToAsk x = Check.laid("r0,9,1;r3,5,2;s1,1;s2,0;d1;");
        for (int k = 1; k <= 8; k++) {
            x.mend(k);
        }
        x.mend(64);
        x.mend(-1);
        x.say(2, 0);
        x.say(0, 2);
        for (int k = 7; k >= 0; k--) {
            CHECK.due("undo() behind what was refused", x.undo(), k);
            CHECK.due("THE DEED", x.count(2), k == 0 ? 1 : k);
        }
        CHECK.due("undo()", x.undo(), NO);
        x.say(0, 0);
        Check.say(x, 1, 1, 3);
        x.say(1, 0);
        x.say(1, 0);
        CHECK.due("AGO of who was refused", x.relative(1, 1), 5);
        CHECK.due("how often he asked", x.relative(1, 4), 0);
        x.noon();
        CHECK.due("what 0 said is on the first place still", x.took(1, 1), 1);
        CHECK.due("deeds(0): what was refused was not said", x.deeds(0), 32);
        x.wipe();
        Check.write(x, "r0,1,1;r0,2,2;r0,3,3;s1,1;s1,1;s1,1;d9;h1;x");
        x.lay();
        CHECK.due("RELATIVES, not laid", x.count(0), 2);
        CHECK.due("SAYINGS, not laid", x.count(1), 2);
        CHECK.due("THE DEED, not laid", x.count(2), 1);
        CHECK.due("H, not laid", x.count(3), 3);
        CHECK.due("a third relative", x.relative(2, 0), BAD);
        CHECK.due("AGO", x.relative(0, 1), 1);
        CHECK.due("letters", x.count(9), 43);
    }
}
