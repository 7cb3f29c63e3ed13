import java.math.BigInteger;
import java.util.ArrayList;
import java.util.List;
import java.util.regex.Matcher;
import java.util.regex.Pattern;

/**
 * The document once more, held as differently as can be: what happened is a list, and every answer is
 * found by going through the whole list again. It is slow, and there to be compared with the class.
 */
final class Model {
    private static final int BAD = -1, NO = -2, FULL = -3, NONE = -4;
    private static final Pattern ITEM = Pattern.compile(
            "r\\d\\d?,\\d\\d?,\\d\\d?;|s\\d\\d?,\\d\\d?;|[dh]\\d\\d?;");

    /** An asking: the day and who. */
    private record Asking(int day, int who) { }

    /** What happened: 's' who and what, 'n' a noon, 'm' the new topics. */
    private record Event(char kind, int a, int b) { }

    /** What a text tells. */
    private static final class Laid {
        final List<int[]> relatives = new ArrayList<>();
        final List<int[]> sayings = new ArrayList<>();
        int deed = 1;
        int hint = 3;
    }

    /** What has come of a list of events. */
    private static final class World {
        final List<Asking> askings = new ArrayList<>();
        final List<Integer> owners = new ArrayList<>();
        int day;
        int deed;
        int owner = NONE;
        int saidToday;

        boolean askedToday() {
            return askings.stream().anyMatch(a -> a.day() == day);
        }
    }

    private String text = "";
    private Laid laid = read("r0,40,1;r1,12,2;r2,55,0;r3,3,1;r4,70,9;s1,1;s6,0;s5,1;s14,0;s8,1;s3,0;d5;h2;");
    private List<Event> events = new ArrayList<>();
    private int undoable;
    private final List<List<Event>> kept = new ArrayList<>();
    private final List<int[]> told = new ArrayList<>();

    // ---- the text

    private static int[] numbers(String item) {
        String[] parts = item.substring(1, item.length() - 1).split(",");
        int[] numbers = new int[parts.length];
        for (int k = 0; k < parts.length; k++) {
            numbers[k] = Integer.parseInt(parts[k]);
        }
        return numbers;
    }

    private static boolean take(Laid into, String item) {
        int[] n = numbers(item);
        switch (item.charAt(0)) {
            case 'r':
                into.relatives.add(n);
                return n[0] <= 4 && n[2] <= 9 && into.relatives.size() <= 6;
            case 's':
                into.sayings.add(n);
                return n[0] <= 63 && n[1] <= 1 && into.sayings.size() <= 8;
            case 'd':
                into.deed = n[0];
                return n[0] <= 63;
            default:
                into.hint = n[0];
                return n[0] >= 1 && n[0] <= 6;
        }
    }

    private static int readAll(String text, Laid into) {
        int at = 0;
        Matcher matcher = ITEM.matcher(text);
        while (at < text.length()) {
            matcher.region(at, text.length());
            if (!matcher.lookingAt() || !take(into, matcher.group())) {
                return at;
            }
            at = matcher.end();
        }
        return NONE;
    }

    private static Laid read(String text) {
        Laid into = new Laid();
        return readAll(text, into) == NONE ? into : null;
    }

    int write(int letter) {
        if (letter < 32 || letter > 126) {
            return BAD;
        }
        if (text.length() == 200) {
            return FULL;
        }
        text += (char) letter;
        return text.length();
    }

    int wipe() {
        int length = text.length();
        text = "";
        return length;
    }

    int fault() {
        return readAll(text, new Laid());
    }

    int lay() {
        Laid next = read(text);
        if (next == null || next.relatives.size() < 2 || next.sayings.isEmpty()) {
            return NO;
        }
        laid = next;
        events = new ArrayList<>();
        undoable = 0;
        kept.clear();
        told.clear();
        return laid.relatives.size();
    }

    // ---- going through what happened

    private boolean isAsking(int s, int i, int deed) {
        int topics = laid.sayings.get(s)[0];
        boolean question = laid.sayings.get(s)[1] == 1;
        boolean onDeed = false;
        int many = 0;
        for (int bit = 1; bit <= 32; bit *= 2) {
            if ((topics & bit) != 0) {
                many++;
                onDeed |= (deed & bit) != 0;
            }
        }
        int kind = laid.relatives.get(i)[0];
        if (kind == 0) {
            return question && onDeed;
        }
        if (kind == 1) {
            return question ? onDeed : many >= laid.hint && onDeed;
        }
        return kind == 2 ? onDeed : kind == 3 && question;
    }

    private int many() {
        return laid.relatives.size();
    }

    private int lastDay(World w, int j, int upTo) {
        int last = -laid.relatives.get(j)[1];
        for (Asking asking : w.askings) {
            if (asking.who() == j && asking.day() <= upTo) {
                last = Math.max(last, asking.day());
            }
        }
        return last;
    }

    private int longest(World w) {
        int best = 0;
        for (int j = many() - 1; j >= 0; j--) {
            if (lastDay(w, j, w.day) <= lastDay(w, best, w.day)) {
                best = j;
            }
        }
        return best;
    }

    private void noonOf(World w) {
        if (w.askedToday()) {
            w.owner = longest(w);
        }
        w.owners.add(w.owner);
        w.day++;
        w.saidToday = 0;
    }

    /** The world by a deed of the start; mended only if so told. */
    private World after(List<Event> happened, int deed, boolean mended) {
        World w = new World();
        w.deed = deed;
        for (Event e : happened) {
            if (e.kind() == 'n') {
                noonOf(w);
            } else if (e.kind() == 'm') {
                w.deed = mended ? e.a() : w.deed;
            } else {
                w.saidToday++;
                if (isAsking(e.b(), e.a(), w.deed)) {
                    w.askings.add(new Asking(w.day, e.a()));
                }
            }
        }
        return w;
    }

    private World now() {
        return after(events, laid.deed, true);
    }

    private boolean noRelative(int i) {
        return i < 0 || i >= many();
    }

    private boolean noSaying(int s) {
        return s < 0 || s >= laid.sayings.size();
    }

    // ---- families

    int relative(int i, int what) {
        if (noRelative(i) || what < 0 || what > 4) {
            return BAD;
        }
        World w = now();
        int[] told = laid.relatives.get(i);
        int[] all = {told[0], w.day - lastDay(w, i, w.day), told[2], w.owner == i ? 1 : 0,
            (int) w.askings.stream().filter(a -> a.who() == i).count()};
        return all[what];
    }

    int saying(int s, int what) {
        return noSaying(s) || what < 0 || what > 1 ? BAD : laid.sayings.get(s)[what];
    }

    int asking(int s, int i) {
        return noSaying(s) || noRelative(i) ? BAD : isAsking(s, i, now().deed) ? 1 : 0;
    }

    private int known(World w, int i, int j, int day) {
        return day - lastDay(w, j, i == j ? day : day - laid.relatives.get(i)[2]);
    }

    int knows(int i, int j) {
        return noRelative(i) || noRelative(j) ? BAD : known(now(), i, j, now().day);
    }

    // ---- days

    private void happen(Event event) {
        events = new ArrayList<>(events);
        events.add(event);
        undoable = Math.min(8, undoable + 1);
    }

    int say(int i, int s) {
        if (noRelative(i) || noSaying(s)) {
            return BAD;
        }
        if (now().saidToday == 4) {
            return FULL;
        }
        happen(new Event('s', i, s));
        return isAsking(s, i, now().deed) ? 1 : 0;
    }

    int noon() {
        if (now().day == 9999) {
            return NO;
        }
        happen(new Event('n', 0, 0));
        return now().owner;
    }

    int mend(int topics) {
        if (topics < 0 || topics > 63) {
            return BAD;
        }
        int before = now().deed;
        happen(new Event('m', topics, 0));
        return before;
    }

    int undo() {
        if (undoable == 0) {
            return NO;
        }
        events = new ArrayList<>(events.subList(0, events.size() - 1));
        return --undoable;
    }

    // ---- whose it would be

    private World withAskers(World w, int askers) {
        World next = new World();
        next.askings.addAll(w.askings);
        next.day = w.day;
        next.owner = w.owner;
        for (int i = 0; i < many(); i++) {
            if ((askers & 1 << i) != 0) {
                next.askings.add(new Asking(w.day, i));
            }
        }
        return next;
    }

    int heir(int i) {
        return noRelative(i) ? BAD : longest(withAskers(now(), 1 << i));
    }

    int among() {
        int bits = 0;
        for (int i = 0; i < many(); i++) {
            bits |= 1 << heir(i);
        }
        return bits;
    }

    int thinks(int i) {
        if (noRelative(i)) {
            return BAD;
        }
        int best = 0;
        for (int j = 0; j < many(); j++) {
            best = knows(i, j) > knows(i, best) ? j : best;
        }
        return best;
    }

    int make(int i) {
        if (noRelative(i)) {
            return BAD;
        }
        World w = now();
        for (int size = 0; size <= many(); size++) {
            for (int askers = 0; askers < 1 << many(); askers++) {
                if (Integer.bitCount(askers) == size) {
                    World then = withAskers(w, askers);
                    then.owner = NONE;
                    noonOf(then);
                    if (then.owner == i) {
                        return askers;
                    }
                }
            }
        }
        return NONE;
    }

    private int liking(int owner, int chooser) {
        return owner == chooser ? 0 : owner >= 0 && owner < chooser ? 2 : 1;
    }

    /** Who has it at the end, and whether the one whose turn it is asks. */
    private int[] turn(World w, int k, int n) {
        if (k == n) {
            return new int[] {w.owner, 0};
        }
        int chooser = k % many();
        World silent = withAskers(w, 0);
        noonOf(silent);
        World asked = withAskers(w, 1 << chooser);
        noonOf(asked);
        int endSilent = turn(silent, k + 1, n)[0];
        int endAsked = turn(asked, k + 1, n)[0];
        boolean asks = liking(endAsked, chooser) < liking(endSilent, chooser);
        return new int[] {asks ? endAsked : endSilent, asks ? 1 : 0};
    }

    int byTurns(int n, int what) {
        return n < 1 || n > 6 || what < 0 || what > 1 ? BAD : turn(now(), 0, n)[what];
    }

    // ---- deeds, sayings

    int took(int t, int i) {
        if (t < 1 || t > 10 || t > now().day || noRelative(i)) {
            return BAD;
        }
        if (told.size() == 6) {
            return FULL;
        }
        told.add(new int[] {t, i});
        return told.size();
    }

    int forget() {
        int before = told.size();
        told.clear();
        return before;
    }

    private boolean fits(int deed) {
        List<Event> tenDays = new ArrayList<>(events);
        for (int k = 0; k < 10; k++) {
            tenDays.add(new Event('n', 0, 0));
        }
        World w = after(tenDays, deed, false);
        return told.stream().allMatch(t -> w.owners.get(t[0] - 1) == t[1]);
    }

    int deeds(int what) {
        if (what < 0 || what > 1) {
            return BAD;
        }
        int many = 0;
        int lowest = NONE;
        for (int deed = 63; deed >= 0; deed--) {
            if (fits(deed)) {
                many++;
                lowest = deed;
            }
        }
        return what == 0 ? many : lowest;
    }

    int quiet() {
        int bits = 0;
        for (int s = 0; s < laid.sayings.size(); s++) {
            int askers = 0;
            for (int i = 0; i < many(); i++) {
                askers += asking(s, i);
            }
            bits |= askers == 0 ? 1 << s : 0;
        }
        return bits;
    }

    int cloak(int i, int what) {
        if (noRelative(i) || what < 0 || what > 1) {
            return BAD;
        }
        for (int topics = 6; topics >= 0; topics--) {
            for (int s = 0; s < laid.sayings.size(); s++) {
                if (asking(s, i) == 0 && Integer.bitCount(saying(s, 0) & now().deed) == topics) {
                    return what == 0 ? s : topics;
                }
            }
        }
        return NONE;
    }

    // ---- mails, children, years

    int allKnow() {
        World w = now();
        for (int wait = 0; ; wait++) {
            boolean all = true;
            for (int i = 0; i < many(); i++) {
                for (int j = 0; j < many(); j++) {
                    int day = w.day + wait;
                    all &= known(w, i, j, day) == day - lastDay(w, j, day);
                }
            }
            if (all) {
                return wait;
            }
        }
    }

    private BigInteger chance(World w, int child, int n, int x, int owner) {
        if (n == 0) {
            return w.owner == owner ? BigInteger.ONE : BigInteger.ZERO;
        }
        World silent = withAskers(w, 0);
        noonOf(silent);
        World asked = withAskers(w, 1 << child);
        noonOf(asked);
        return chance(silent, child, n - 1, x, owner).multiply(BigInteger.valueOf(10 - x))
                .add(chance(asked, child, n - 1, x, owner).multiply(BigInteger.valueOf(x)));
    }

    long lasts(int n, int x, int part) {
        if (n < 0 || n > 9 || x < 0 || x > 10 || part < 0 || part > 1) {
            return BAD;
        }
        int child = 0;
        for (int i = many() - 1; i >= 0; i--) {
            child = laid.relatives.get(i)[0] == 3 ? i : child;
        }
        World w = now();
        BigInteger above = chance(w, child, n, x, w.owner);
        BigInteger below = BigInteger.TEN.pow(n);
        BigInteger divisor = above.gcd(below);
        return (part == 0 ? above : below).divide(divisor).longValueExact();
    }

    int year(int z, int n, int what) {
        if (z < 0 || z > 9999 || n < 1 || n > 99 || what < 0 || what > 1) {
            return BAD;
        }
        List<Event> ahead = new ArrayList<>(events);
        for (int k = 0; k < n; k++) {
            BigInteger x = BigInteger.valueOf(7919).multiply(BigInteger.valueOf(z))
                    .add(BigInteger.valueOf(6151).multiply(BigInteger.valueOf(k))).add(BigInteger.ONE);
            int draw = x.pow(2).mod(BigInteger.valueOf(65521)).intValue() / 8;
            if (draw / 64 % 3 == 0) {
                ahead.add(new Event('s', draw % many(), draw / 8 % laid.sayings.size()));
            }
            ahead.add(new Event('n', 0, 0));
        }
        World w = after(ahead, laid.deed, true);
        int changes = 0;
        for (int k = 0; k < n; k++) {
            int at = now().day + k;
            int before = at == 0 ? NONE : w.owners.get(at - 1);
            changes += w.owners.get(at) == before ? 0 : 1;
        }
        return what == 0 ? w.owner : changes;
    }

    int keep() {
        if (kept.size() == 2) {
            return FULL;
        }
        kept.add(events);
        return kept.size();
    }

    int back() {
        if (kept.isEmpty()) {
            return NO;
        }
        events = kept.remove(kept.size() - 1);
        undoable = 0;
        return kept.size();
    }

    int count(int what) {
        World w = now();
        int[] all = {many(), laid.sayings.size(), w.deed, laid.hint, w.day, w.owner == NONE ? 0 : w.owner + 1,
            told.size(), undoable, kept.size(), text.length(), w.saidToday};
        return what < 0 || what > 10 ? BAD : all[what];
    }
}
