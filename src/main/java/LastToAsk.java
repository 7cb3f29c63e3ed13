/**
 * A fortune in trust for whoever is last to ask: at noon of a day on which somebody asked, it goes to
 * the relative who has not asked for longest. ../shared/DOC.md promises what each call answers.
 */
public final class LastToAsk {
    public static final int BAD = -1, NO = -2, FULL = -3, NONE = -4;

    private static final String FIRST_TEXT =
            "r0,40,1;r1,12,2;r2,55,0;r3,3,1;r4,70,9;s1,1;s6,0;s5,1;s14,0;s8,1;s3,0;d5;h2;";

    private static final int LETTER_LIMIT = 200;
    private static final int RELATIVE_LIMIT = 6;
    private static final int SAYING_LIMIT = 8;
    private static final int SETS_OF_RELATIVES = 64;
    private static final int SETS_OF_TOPICS = 64;

    private static final int PLAIN = 0, AUNT = 1, COUSIN = 2, CHILD = 3, ABROAD = 4;

    private static final int LAST_DAY = 9999;
    private static final int SAID_A_DAY = 4;
    private static final int LOGGED_DAYS = 10;
    private static final int LONGEST_MAIL = 9;
    private static final int UNDO_LIMIT = 8;
    private static final int KEEP_LIMIT = 2;
    private static final int TOOK_LIMIT = 6;
    private static final int TURNS_LIMIT = 6;

    private final Text text = new Text();
    private final Family family = new Family();
    private final Family draft = new Family();
    private final Days days = new Days();
    private final Past undoable = new Past(UNDO_LIMIT);
    private final Past kept = new Past(KEEP_LIMIT);
    private final Told told = new Told();
    private final Turns turns = new Turns();
    private final Chance chance = new Chance();
    private final YearAhead yearAhead = new YearAhead();

    public LastToAsk() {
        for (int k = 0; k < FIRST_TEXT.length(); k++) {
            text.append(FIRST_TEXT.charAt(k));
        }
        layText();
        text.clear();
    }

    // ---- families

    public int write(int letter) {
        if (letter < 32 || letter > 126) {
            return BAD;
        }
        return text.append((char) letter) ? text.length() : FULL;
    }

    public int wipe() {
        int length = text.length();
        text.clear();
        return length;
    }

    public int fault() {
        return text.readInto(draft);
    }

    public int lay() {
        if (text.readInto(draft) != NONE || !draft.isEnough()) {
            return NO;
        }
        layText();
        return family.relatives();
    }

    public int relative(int i, int what) {
        if (!family.hasRelative(i)) {
            return BAD;
        }
        switch (what) {
            case 0: return family.kind(i);
            case 1: return days.trust().ago(i);
            case 2: return family.mails(i);
            case 3: return days.trust().owner() == i ? 1 : 0;
            case 4: return days.timesAsked(i);
            default: return BAD;
        }
    }

    public int saying(int s, int what) {
        if (!family.hasSaying(s)) {
            return BAD;
        }
        switch (what) {
            case 0: return family.topics(s);
            case 1: return family.isQuestion(s) ? 1 : 0;
            default: return BAD;
        }
    }

    public int asking(int s, int i) {
        if (!family.hasSaying(s) || !family.hasRelative(i)) {
            return BAD;
        }
        return family.isAsking(s, i, days.deed()) ? 1 : 0;
    }

    public int knows(int i, int j) {
        if (!family.hasRelative(i) || !family.hasRelative(j)) {
            return BAD;
        }
        return days.agoKnown(family, i, j);
    }

    // ---- days

    public int say(int i, int s) {
        if (!family.hasRelative(i) || !family.hasSaying(s)) {
            return BAD;
        }
        if (days.saidToday() >= SAID_A_DAY) {
            return FULL;
        }
        undoable.push(days);
        return days.hear(family, i, s) ? 1 : 0;
    }

    public int noon() {
        if (days.trust().day() >= LAST_DAY) {
            return NO;
        }
        undoable.push(days);
        days.passNoon();
        return days.trust().owner();
    }

    public int mend(int topics) {
        if (topics < 0 || topics >= SETS_OF_TOPICS) {
            return BAD;
        }
        int before = days.deed();
        undoable.push(days);
        days.setDeed(topics);
        return before;
    }

    public int undo() {
        if (undoable.held() == 0) {
            return NO;
        }
        undoable.pop(days);
        return undoable.held();
    }

    // ---- whose it would be

    public int heir(int i) {
        return family.hasRelative(i) ? days.trust().longestIf(1 << i) : BAD;
    }

    public int among() {
        return days.trust().heirs();
    }

    public int thinks(int i) {
        return family.hasRelative(i) ? days.longestKnown(family, i) : BAD;
    }

    public int make(int i) {
        return family.hasRelative(i) ? days.trust().fewestFor(i) : BAD;
    }

    public int byTurns(int n, int what) {
        if (n < 1 || n > TURNS_LIMIT || what < 0 || what > 1) {
            return BAD;
        }
        turns.play(days.trust(), n);
        if (what == 0) {
            return turns.owner();
        }
        return turns.firstAsks() ? 1 : 0;
    }

    // ---- deeds, sayings

    public int took(int t, int i) {
        boolean wasNoon = t >= 1 && t <= LOGGED_DAYS && t <= days.trust().day();
        if (!wasNoon || !family.hasRelative(i)) {
            return BAD;
        }
        return told.tell(t, i) ? told.size() : FULL;
    }

    public int forget() {
        int before = told.size();
        told.clear();
        return before;
    }

    public int deeds(int what) {
        switch (what) {
            case 0: return told.deedsThatFit(family, days);
            case 1: return told.lowestThatFits(family, days);
            default: return BAD;
        }
    }

    public int quiet() {
        return family.quietSayings(days.deed());
    }

    public int cloak(int i, int what) {
        if (!family.hasRelative(i) || what < 0 || what > 1) {
            return BAD;
        }
        int best = family.cloakOf(i, days.deed());
        if (best == NONE || what == 0) {
            return best;
        }
        return family.topicsOnDeed(best, days.deed());
    }

    // ---- mails, children, years

    public int allKnow() {
        return days.daysUntilAllKnow(family);
    }

    public long lasts(int n, int x, int part) {
        if (n < 0 || n > 9 || x < 0 || x > 10 || part < 0 || part > 1) {
            return BAD;
        }
        chance.reckon(days.trust(), family.lowestChild(), n, x);
        return part == 0 ? chance.above() : chance.below();
    }

    public int year(int z, int n, int what) {
        if (z < 0 || z > 9999 || n < 1 || n > 99 || what < 0 || what > 1) {
            return BAD;
        }
        yearAhead.play(family, days, z, n);
        return what == 0 ? yearAhead.owner() : yearAhead.changes();
    }

    public int keep() {
        if (kept.held() >= KEEP_LIMIT) {
            return FULL;
        }
        kept.push(days);
        return kept.held();
    }

    public int back() {
        if (kept.held() == 0) {
            return NO;
        }
        kept.pop(days);
        undoable.clear();
        return kept.held();
    }

    public int count(int what) {
        switch (what) {
            case 0: return family.relatives();
            case 1: return family.sayings();
            case 2: return days.deed();
            case 3: return family.hint();
            case 4: return days.trust().day();
            case 5: return days.trust().owner() == NONE ? 0 : days.trust().owner() + 1;
            case 6: return told.size();
            case 7: return undoable.held();
            case 8: return kept.held();
            case 9: return text.length();
            case 10: return days.saidToday();
            default: return BAD;
        }
    }

    private void layText() {
        text.readInto(family);
        days.begin(family);
        undoable.clear();
        kept.clear();
        told.clear();
    }

    /** The letters as they were written, and how items are read from them. */
    private static final class Text {
        private static final int NOT_SO = -1;
        private static final int MOST_NUMBERS = 3;

        private final char[] letters = new char[LETTER_LIMIT];
        private final int[] numbers = new int[MOST_NUMBERS];
        private int length;

        int length() {
            return length;
        }

        void clear() {
            length = 0;
        }

        boolean append(char letter) {
            if (length >= LETTER_LIMIT) {
                return false;
            }
            letters[length] = letter;
            length++;
            return true;
        }

        /** Fills the family with the items; where the first one begins that is not so, or NONE. */
        int readInto(Family family) {
            family.clear();
            int start = 0;
            for (int items = 0; items < LETTER_LIMIT && start < length; items++) {
                int end = readItem(start, family);
                if (end == NOT_SO) {
                    return start;
                }
                start = end;
            }
            return NONE;
        }

        private int readItem(int start, Family family) {
            char letter = letterAt(start);
            int many = numbersBehind(letter);
            int end = readNumbers(start + 1, many);
            if (end == NOT_SO || !addTo(family, letter)) {
                return NOT_SO;
            }
            return end;
        }

        private int numbersBehind(char letter) {
            if (letter == 'r') {
                return 3;
            }
            if (letter == 's') {
                return 2;
            }
            return letter == 'd' || letter == 'h' ? 1 : 0;
        }

        /** Reads so many numbers with what parts and ends them; the place behind, or NOT_SO. */
        private int readNumbers(int from, int many) {
            int at = from;
            for (int k = 0; k < many && k < MOST_NUMBERS; k++) {
                int value = figureAt(at);
                if (value < 0) {
                    return NOT_SO;
                }
                at++;
                int second = figureAt(at);
                if (second >= 0) {
                    value = 10 * value + second;
                    at++;
                }
                char due = k + 1 < many ? ',' : ';';
                if (letterAt(at) != due) {
                    return NOT_SO;
                }
                at++;
                numbers[k] = value;
            }
            return at;
        }

        private boolean addTo(Family family, char letter) {
            if (letter == 'r') {
                return family.addRelative(numbers[0], numbers[1], numbers[2]);
            }
            if (letter == 's') {
                return family.addSaying(numbers[0], numbers[1]);
            }
            if (letter == 'd') {
                return family.setDeed(numbers[0]);
            }
            return letter == 'h' && family.setHint(numbers[0]);
        }

        private int figureAt(int at) {
            char letter = letterAt(at);
            return letter >= '0' && letter <= '9' ? letter - '0' : -1;
        }

        private char letterAt(int at) {
            return at >= 0 && at < length && at < LETTER_LIMIT ? letters[at] : (char) 0;
        }
    }

    /** The relatives and the sayings as a text tells them: what no day changes. */
    private static final class Family {
        private final int[] kinds = new int[RELATIVE_LIMIT];
        private final int[] agos = new int[RELATIVE_LIMIT];
        private final int[] mails = new int[RELATIVE_LIMIT];
        private final int[] topics = new int[SAYING_LIMIT];
        private final boolean[] questions = new boolean[SAYING_LIMIT];
        private int relatives;
        private int sayings;
        private int deed;
        private int hint;

        void clear() {
            relatives = 0;
            sayings = 0;
            deed = 1;
            hint = 3;
        }

        boolean addRelative(int kind, int ago, int mail) {
            if (relatives >= RELATIVE_LIMIT || kind > ABROAD || ago > 99 || mail > LONGEST_MAIL) {
                return false;
            }
            kinds[relatives] = kind;
            agos[relatives] = ago;
            mails[relatives] = mail;
            relatives++;
            return true;
        }

        boolean addSaying(int ofTopics, int question) {
            if (sayings >= SAYING_LIMIT || ofTopics >= SETS_OF_TOPICS || question > 1) {
                return false;
            }
            topics[sayings] = ofTopics;
            questions[sayings] = question == 1;
            sayings++;
            return true;
        }

        boolean setDeed(int ofTopics) {
            if (ofTopics >= SETS_OF_TOPICS) {
                return false;
            }
            deed = ofTopics;
            return true;
        }

        boolean setHint(int manyTopics) {
            if (manyTopics < 1 || manyTopics > 6) {
                return false;
            }
            hint = manyTopics;
            return true;
        }

        boolean isEnough() {
            return relatives >= 2 && sayings >= 1;
        }

        int relatives() {
            return relatives;
        }

        int sayings() {
            return sayings;
        }

        int deed() {
            return deed;
        }

        int hint() {
            return hint;
        }

        boolean hasRelative(int i) {
            return i >= 0 && i < relatives && i < RELATIVE_LIMIT;
        }

        boolean hasSaying(int s) {
            return s >= 0 && s < sayings && s < SAYING_LIMIT;
        }

        int kind(int i) {
            return hasRelative(i) ? kinds[i] : PLAIN;
        }

        int ago(int i) {
            return hasRelative(i) ? agos[i] : 0;
        }

        int mails(int i) {
            return hasRelative(i) ? mails[i] : 0;
        }

        int topics(int s) {
            return hasSaying(s) ? topics[s] : 0;
        }

        boolean isQuestion(int s) {
            return hasSaying(s) && questions[s];
        }

        boolean isAsking(int s, int i, int byDeed) {
            boolean question = isQuestion(s);
            boolean onDeed = (topics(s) & byDeed) != 0;
            switch (kind(i)) {
                case PLAIN: return question && onDeed;
                case AUNT: return onDeed && (question || Integer.bitCount(topics(s)) >= hint);
                case COUSIN: return onDeed;
                case CHILD: return question;
                default: return false;
            }
        }

        /** As bits, the sayings that are asking by none of the relatives. */
        int quietSayings(int byDeed) {
            int quiet = 0;
            for (int s = 0; s < sayings; s++) {
                boolean asked = false;
                for (int i = 0; i < relatives && !asked; i++) {
                    asked = isAsking(s, i, byDeed);
                }
                if (!asked) {
                    quiet |= 1 << s;
                }
            }
            return quiet;
        }

        /** The saying that tells most of the deed and yet is not asking by him, or NONE. */
        int cloakOf(int i, int byDeed) {
            int best = NONE;
            for (int s = 0; s < sayings; s++) {
                if (!isAsking(s, i, byDeed)
                        && (best == NONE || topicsOnDeed(s, byDeed) > topicsOnDeed(best, byDeed))) {
                    best = s;
                }
            }
            return best;
        }

        int topicsOnDeed(int s, int byDeed) {
            return Integer.bitCount(topics(s) & byDeed);
        }

        /** The child by whom a chance goes: relative 0 stands in where there is no child. */
        int lowestChild() {
            for (int i = 0; i < relatives; i++) {
                if (kind(i) == CHILD) {
                    return i;
                }
            }
            return 0;
        }
    }

    /** Whose the fortune is, and all that a noon looks at. */
    private static final class Trust {
        private final int[] lastDay = new int[RELATIVE_LIMIT];
        private int relatives;
        private int day;
        private boolean askedToday;
        private int owner;

        void begin(Family family) {
            relatives = Math.min(family.relatives(), RELATIVE_LIMIT);
            for (int i = 0; i < relatives; i++) {
                lastDay[i] = -family.ago(i);
            }
            day = 0;
            // kept apart from lastDay: one told to have asked 0 days ahead has not asked on day 0
            askedToday = false;
            owner = NONE;
        }

        void copy(Trust other) {
            System.arraycopy(other.lastDay, 0, lastDay, 0, RELATIVE_LIMIT);
            relatives = other.relatives;
            day = other.day;
            askedToday = other.askedToday;
            owner = other.owner;
        }

        int relatives() {
            return relatives;
        }

        int day() {
            return day;
        }

        /** The number of a relative, or NONE. */
        int owner() {
            return owner;
        }

        int ago(int i) {
            return i >= 0 && i < relatives ? day - lastDay[i] : 0;
        }

        void ask(int i) {
            if (i >= 0 && i < relatives) {
                lastDay[i] = day;
                askedToday = true;
            }
        }

        void passNoon() {
            if (askedToday) {
                owner = longestIf(0);
            }
            askedToday = false;
            day++;
        }

        /** Who has not asked for longest, if those told as bits ask now as well. */
        int longestIf(int askers) {
            int longest = 0;
            int most = -1;
            for (int i = 0; i < relatives; i++) {
                int ago = (askers >> i & 1) == 1 ? 0 : ago(i);
                if (ago > most) {
                    most = ago;
                    longest = i;
                }
            }
            return longest;
        }

        int heirs() {
            int heirs = 0;
            for (int i = 0; i < relatives; i++) {
                heirs |= 1 << longestIf(1 << i);
            }
            return heirs;
        }

        /** As bits, the fewest further askers by whom the fortune comes to one at noon, or NONE. */
        int fewestFor(int i) {
            int fewest = NONE;
            for (int askers = 0; askers < 1 << relatives && askers < SETS_OF_RELATIVES; askers++) {
                boolean somebodyAsked = askedToday || askers != 0;
                boolean fewer = fewest == NONE || Integer.bitCount(askers) < Integer.bitCount(fewest);
                if (somebodyAsked && fewer && longestIf(askers) == i) {
                    fewest = askers;
                }
            }
            return fewest;
        }
    }

    /** All that stands on a day: the trust, the deed, what was said and what mails have told. */
    private static final class Days {
        private static final int DELAYS = LONGEST_MAIL + 1;

        private final Trust trust = new Trust();
        /** Behind each other for every relative: when he asked last, as known by mails of 0, 1, .. days. */
        private final int[] heard = new int[RELATIVE_LIMIT * DELAYS];
        private final int[] times = new int[RELATIVE_LIMIT];
        private final int[] saidOn = new int[LOGGED_DAYS];
        private final int[] speakers = new int[LOGGED_DAYS * SAID_A_DAY];
        private final int[] sayings = new int[LOGGED_DAYS * SAID_A_DAY];
        private int saidToday;
        private int deed;

        void begin(Family family) {
            trust.begin(family);
            for (int i = 0; i < RELATIVE_LIMIT; i++) {
                times[i] = 0;
                for (int delay = 0; delay < DELAYS; delay++) {
                    heard[i * DELAYS + delay] = -family.ago(i);
                }
            }
            for (int day = 0; day < LOGGED_DAYS; day++) {
                saidOn[day] = 0;
            }
            saidToday = 0;
            deed = family.deed();
        }

        void copy(Days other) {
            trust.copy(other.trust);
            System.arraycopy(other.heard, 0, heard, 0, RELATIVE_LIMIT * DELAYS);
            System.arraycopy(other.times, 0, times, 0, RELATIVE_LIMIT);
            System.arraycopy(other.saidOn, 0, saidOn, 0, LOGGED_DAYS);
            System.arraycopy(other.speakers, 0, speakers, 0, LOGGED_DAYS * SAID_A_DAY);
            System.arraycopy(other.sayings, 0, sayings, 0, LOGGED_DAYS * SAID_A_DAY);
            saidToday = other.saidToday;
            deed = other.deed;
        }

        Trust trust() {
            return trust;
        }

        int deed() {
            return deed;
        }

        void setDeed(int topics) {
            deed = topics;
        }

        int saidToday() {
            return saidToday;
        }

        int timesAsked(int i) {
            return i >= 0 && i < RELATIVE_LIMIT ? times[i] : 0;
        }

        /** One says a saying; whether it is asking. */
        boolean hear(Family family, int i, int s) {
            log(i, s);
            saidToday++;
            boolean asks = family.isAsking(s, i, deed);
            if (asks && i >= 0 && i < RELATIVE_LIMIT) {
                trust.ask(i);
                times[i]++;
                heard[i * DELAYS] = trust.day();
            }
            return asks;
        }

        /** The first days are written down, for the deeds that fit have to go through them again. */
        private void log(int i, int s) {
            int day = trust.day();
            if (day >= 0 && day < LOGGED_DAYS && saidToday >= 0 && saidToday < SAID_A_DAY) {
                speakers[day * SAID_A_DAY + saidToday] = i;
                sayings[day * SAID_A_DAY + saidToday] = s;
                saidOn[day] = saidToday + 1;
            }
        }

        void passNoon() {
            trust.passNoon();
            saidToday = 0;
            for (int i = 0; i < RELATIVE_LIMIT; i++) {
                for (int delay = DELAYS - 1; delay > 0; delay--) {
                    heard[i * DELAYS + delay] = heard[i * DELAYS + delay - 1];
                }
            }
        }

        /** How many days ago j asked last, as far as i knows it. */
        int agoKnown(Family family, int i, int j) {
            return i == j ? trust.ago(i) : trust.day() - lastHeard(j, family.mails(i));
        }

        /** Whom i takes for the one who has not asked for longest. */
        int longestKnown(Family family, int i) {
            int longest = 0;
            for (int j = 1; j < family.relatives(); j++) {
                if (agoKnown(family, i, j) > agoKnown(family, i, longest)) {
                    longest = j;
                }
            }
            return longest;
        }

        int daysUntilAllKnow(Family family) {
            for (int wait = 0; wait < LONGEST_MAIL; wait++) {
                if (allKnowAfter(wait, family)) {
                    return wait;
                }
            }
            return LONGEST_MAIL;
        }

        /** A mail that has been under way for some days more is as one that takes so many fewer. */
        private boolean allKnowAfter(int wait, Family family) {
            for (int i = 0; i < family.relatives(); i++) {
                int delay = Math.max(0, family.mails(i) - wait);
                for (int j = 0; j < family.relatives(); j++) {
                    if (i != j && lastHeard(j, delay) != lastHeard(j, 0)) {
                        return false;
                    }
                }
            }
            return true;
        }

        private int lastHeard(int j, int delay) {
            boolean known = j >= 0 && j < RELATIVE_LIMIT && delay >= 0 && delay < DELAYS;
            return known ? heard[j * DELAYS + delay] : 0;
        }

        /** All that was said on one of the first days is said again, to another trust, by another deed. */
        void repeat(int day, Family family, int byDeed, Trust other) {
            if (day < 0 || day >= LOGGED_DAYS) {
                return;
            }
            for (int k = 0; k < saidOn[day] && k < SAID_A_DAY; k++) {
                int i = speakers[day * SAID_A_DAY + k];
                if (family.isAsking(sayings[day * SAID_A_DAY + k], i, byDeed)) {
                    other.ask(i);
                }
            }
        }
    }

    /** Days laid by, the latest on top; one more than there is room for takes the place of the oldest. */
    private static final class Past {
        private final Days[] rows;
        private int top;
        private int held;

        Past(int room) {
            rows = new Days[Math.max(1, room)];
            for (int k = 0; k < rows.length; k++) {
                rows[k] = new Days();
            }
        }

        int held() {
            return held;
        }

        void clear() {
            held = 0;
        }

        void push(Days days) {
            top = top + 1 < rows.length ? top + 1 : 0;
            held = Math.min(held + 1, rows.length);
            Days row = topRow();
            if (row != null) {
                row.copy(days);
            }
        }

        void pop(Days days) {
            Days row = topRow();
            if (held > 0 && row != null) {
                days.copy(row);
                held--;
                top = top > 0 ? top - 1 : rows.length - 1;
            }
        }

        private Days topRow() {
            return top >= 0 && top < rows.length ? rows[top] : null;
        }
    }

    /** What took tells, and the deeds by which it all would be so. */
    private static final class Told {
        private final int[] noons = new int[TOOK_LIMIT];
        private final int[] owners = new int[TOOK_LIMIT];
        private final Trust trial = new Trust();
        private int size;

        int size() {
            return size;
        }

        void clear() {
            size = 0;
        }

        boolean tell(int noon, int owner) {
            if (size >= TOOK_LIMIT) {
                return false;
            }
            noons[size] = noon;
            owners[size] = owner;
            size++;
            return true;
        }

        int deedsThatFit(Family family, Days days) {
            int many = 0;
            for (int deed = 0; deed < SETS_OF_TOPICS; deed++) {
                if (fits(deed, family, days)) {
                    many++;
                }
            }
            return many;
        }

        int lowestThatFits(Family family, Days days) {
            for (int deed = 0; deed < SETS_OF_TOPICS; deed++) {
                if (fits(deed, family, days)) {
                    return deed;
                }
            }
            return NONE;
        }

        /** All logged days are gone through: a noon that was undone would come with nothing more said. */
        private boolean fits(int deed, Family family, Days days) {
            trial.begin(family);
            for (int day = 0; day < LOGGED_DAYS; day++) {
                days.repeat(day, family, deed, trial);
                trial.passNoon();
                if (!agrees(day + 1, trial.owner())) {
                    return false;
                }
            }
            return true;
        }

        private boolean agrees(int noon, int owner) {
            for (int k = 0; k < size; k++) {
                if (noons[k] == noon && owners[k] != owner) {
                    return false;
                }
            }
            return true;
        }
    }

    /** The days on which one relative after the other may ask, each looking ahead for himself. */
    private static final class Turns {
        /** For every way the coming days can go, the first day's asking as the highest bit: whose it is. */
        private final int[] ends = new int[1 << TURNS_LIMIT];
        private final Trust trial = new Trust();
        private boolean firstAsks;

        int owner() {
            return ends[0];
        }

        boolean firstAsks() {
            return firstAsks;
        }

        void play(Trust now, int n) {
            int many = Math.max(1, now.relatives());
            for (int way = 0; way < 1 << n && way < ends.length; way++) {
                ends[way] = endOf(way, now, n, many);
            }
            for (int day = n - 1; day >= 0; day--) {
                chooseOn(day, day % many);
            }
        }

        private int endOf(int way, Trust now, int n, int many) {
            trial.copy(now);
            for (int day = 0; day < n; day++) {
                if ((way >> (n - 1 - day) & 1) == 1) {
                    trial.ask(day % many);
                }
                trial.passNoon();
            }
            return trial.owner();
        }

        /** Of each two ways that part on this day only the one is left that he chooses whose turn it is. */
        private void chooseOn(int day, int chooser) {
            for (int way = 0; way < 1 << day && 2 * way + 1 < ends.length; way++) {
                int silent = ends[2 * way];
                int asked = ends[2 * way + 1];
                firstAsks = rank(asked, chooser) > rank(silent, chooser);
                ends[way] = firstAsks ? asked : silent;
            }
        }

        private int rank(int owner, int chooser) {
            if (owner == chooser) {
                return 2;
            }
            return owner == NONE || owner > chooser ? 1 : 0;
        }
    }

    /** The chance that the fortune stays whose it is, by a child who asks or does not. */
    private static final class Chance {
        private final Trust trial = new Trust();
        private long above;
        private long below;

        long above() {
            return above;
        }

        long below() {
            return below;
        }

        /**
         * The trial goes through days without the child. That suffices: nobody else asks from now on, so
         * that when he last did matters at the first noon alone, where others may have asked already.
         */
        void reckon(Trust now, int child, int n, int x) {
            trial.copy(now);
            above = 1;
            below = 1;
            for (int day = 0; day < n; day++) {
                int heir = trial.longestIf(1 << child);
                trial.passNoon();
                if (day == 0 && trial.owner() != now.owner()) {
                    above = 0;
                }
                above = above * (10 - x) + (heir == now.owner() ? below * x : 0);
                below = below * 10;
            }
            long divisor = greatestDivisor(above, below);
            if (divisor > 1) {
                above = above / divisor;
                below = below / divisor;
            }
        }

        private long greatestDivisor(long a, long b) {
            long larger = b;
            long smaller = a;
            for (int steps = 0; steps < 100 && smaller > 0; steps++) {
                long rest = larger % smaller;
                larger = smaller;
                smaller = rest;
            }
            return larger;
        }
    }

    /** Days ahead on which draws tell who says what. */
    private static final class YearAhead {
        private final Trust trial = new Trust();
        private int changes;

        int owner() {
            return trial.owner();
        }

        int changes() {
            return changes;
        }

        void play(Family family, Days days, int z, int n) {
            trial.copy(days.trust());
            changes = 0;
            for (int k = 0; k < n; k++) {
                sayByDraw(family, days.deed(), draw(z, k));
                int before = trial.owner();
                trial.passNoon();
                if (trial.owner() != before) {
                    changes++;
                }
            }
        }

        private void sayByDraw(Family family, int deed, int draw) {
            int relatives = family.relatives();
            int sayings = family.sayings();
            if (draw / 64 % 3 != 0 || relatives < 1 || sayings < 1) {
                return;
            }
            int i = draw % relatives;
            if (family.isAsking(draw / 8 % sayings, i, deed)) {
                trial.ask(i);
            }
        }

        private int draw(int z, int k) {
            long x = 7919L * z + 6151L * k + 1;
            return (int) (x * x % 65521 / 8);
        }
    }
}
