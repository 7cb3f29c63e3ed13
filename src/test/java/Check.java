import java.util.ArrayList;
import java.util.List;

/** Compares answers with those that are due, and tells of every one that is not. */
final class Check {
    private final String name;
    private final List<String> sentences = new ArrayList<>();
    private String prefix;
    private int compared;
    private int wrong;

    Check(String name) {
        this.name = name;
        prefix = name;
    }

    /** The sentence of the document by which the answers that follow are due. */
    void by(String sentence) {
        sentences.add(sentence);
        prefix = name + ": <" + sentence + ">";
    }

    List<String> sentences() {
        return sentences;
    }

    void due(String call, long got, long want) {
        compared++;
        if (got != want) {
            wrong++;
            System.out.println(prefix + ": " + call + " answered " + got + ", due is " + want);
        }
    }

    void due(String call, String got, String want) {
        compared++;
        if (!want.equals(got)) {
            wrong++;
            System.out.println(prefix + ": " + call + " gave " + got + ", due is " + want);
        }
    }

    int wrong() {
        return wrong;
    }

    /** Ends the program with exit code 1 if an answer was not as due. */
    void close() {
        System.out.println(name + ": " + compared + " compared, " + wrong + " wrong");
        if (wrong != 0 || compared == 0) {
            System.exit(1);
        }
    }

    static void write(LastToAsk x, String text) {
        for (int k = 0; k < text.length(); k++) {
            x.write(text.charAt(k));
        }
    }

    /** A new object whose text is written and laid. */
    static LastToAsk laid(String text) {
        LastToAsk x = new LastToAsk();
        write(x, text);
        if (x.lay() < 0) {
            throw new IllegalArgumentException("not laid: " + text);
        }
        return x;
    }

    static void noons(LastToAsk x, int many) {
        for (int k = 0; k < many; k++) {
            x.noon();
        }
    }

    static void say(LastToAsk x, int i, int s, int many) {
        for (int k = 0; k < many; k++) {
            x.say(i, s);
        }
    }

    /** All that count() and relative() tell, to see that nothing has changed. */
    static String standing(LastToAsk x) {
        StringBuilder all = new StringBuilder();
        for (int what = 0; what <= 10; what++) {
            all.append(x.count(what)).append(' ');
        }
        for (int i = 0; i < x.count(0); i++) {
            for (int what = 0; what <= 4; what++) {
                all.append(x.relative(i, what)).append(' ');
            }
        }
        return all.toString();
    }

    /** What all the calls tell that change nothing: meant for few relatives, for a run has 512 calls at most. */
    static String everything(LastToAsk x) {
        StringBuilder all = new StringBuilder(standing(x));
        int relatives = x.count(0);
        int sayings = x.count(1);
        for (int i = 0; i < relatives; i++) {
            for (int j = 0; j < relatives; j++) {
                all.append(x.knows(i, j)).append(' ');
            }
            for (int s = 0; s < sayings; s++) {
                all.append(x.asking(s, i)).append(' ');
            }
            all.append(x.heir(i)).append(' ').append(x.thinks(i)).append(' ').append(x.make(i)).append(' ')
                    .append(x.cloak(i, 0)).append(' ').append(x.cloak(i, 1)).append(' ');
        }
        for (int s = 0; s < sayings; s++) {
            all.append(x.saying(s, 0)).append(' ').append(x.saying(s, 1)).append(' ');
        }
        for (int what = 0; what <= 1; what++) {
            all.append(x.byTurns(3, what)).append(' ').append(x.deeds(what)).append(' ')
                    .append(x.lasts(2, 3, what)).append(' ').append(x.year(77, 9, what)).append(' ');
        }
        return all.append(x.fault()).append(' ').append(x.among()).append(' ').append(x.quiet()).append(' ')
                .append(x.allKnow()).toString();
    }
}
