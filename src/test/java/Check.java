/** Compares answers with those that are due, and tells of every one that is not. */
final class Check {
    private final String name;
    private int compared;
    private int wrong;

    Check(String name) {
        this.name = name;
    }

    void due(String call, long got, long want) {
        compared++;
        if (got != want) {
            wrong++;
            System.out.println(name + ": " + call + " answered " + got + ", due is " + want);
        }
    }

    void due(String call, String got, String want) {
        compared++;
        if (!want.equals(got)) {
            wrong++;
            System.out.println(name + ": " + call + " gave " + got + ", due is " + want);
        }
    }

    int wrong() {
        return wrong;
    }

    /** Ends the program with exit code 1 if an answer was not as due. */
    void close() {
        System.out.println(name + ": " + compared + " compared, " + wrong + " wrong");
        if (wrong != 0 || compared == 0) {
            System.exit(1);
        }
    }

    static void write(LastToAsk x, String text) {
        for (int k = 0; k < text.length(); k++) {
            x.write(text.charAt(k));
        }
    }

    /** A new object whose text is written and laid. */
    static LastToAsk laid(String text) {
        LastToAsk x = new LastToAsk();
        write(x, text);
        if (x.lay() < 0) {
            throw new IllegalArgumentException("not laid: " + text);
        }
        return x;
    }

    static void noons(LastToAsk x, int many) {
        for (int k = 0; k < many; k++) {
            x.noon();
        }
    }

    /** All that count() and relative() tell, to see that nothing has changed. */
    static String standing(LastToAsk x) {
        StringBuilder all = new StringBuilder();
        for (int what = 0; what <= 10; what++) {
            all.append(x.count(what)).append(' ');
        }
        for (int i = 0; i < x.count(0); i++) {
            for (int what = 0; what <= 4; what++) {
                all.append(x.relative(i, what)).append(' ');
            }
        }
        return all.toString();
    }
}
