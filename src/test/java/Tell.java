/** Texts for the tape, and answers held against those that are due. */
final class Tell {
    private final String name;
    private int wrong = 0;
    private int asked = 0;

    Tell(String name) {
        this.name = name;
    }

    /** The text comes onto an empty tape, blanks behind it up to twenty bytes. */
    static void feed(FlexGrid g, String text) {
        for (int at = 0; at < text.length(); at += 20) {
            int[] five = new int[5];
            for (int i = 0; i < 20; i++) {
                int sign = at + i < text.length() ? text.charAt(at + i) : 32;
                five[i / 4] |= sign << 24 - i % 4 * 8;
            }
            g.feed(five[0], five[1], five[2], five[3], five[4]);
        }
    }

    static int grid(FlexGrid g, String text) {
        feed(g, text);
        return g.grid(text.length());
    }

    static int works(FlexGrid g, String text) {
        feed(g, text);
        return g.works(text.length());
    }

    static int check(FlexGrid g, int... firsts) {
        StringBuilder b = new StringBuilder();
        for (int first : firsts) {
            b.append((char) first);
        }
        feed(g, b.toString());
        return g.check(firsts.length);
    }

    static FlexGrid gridOf(String text) {
        FlexGrid g = new FlexGrid();
        int answer = grid(g, text);
        if (answer < 0) {
            throw new IllegalStateException(text + ": " + answer);
        }
        return g;
    }

    void due(String what, int got, int want) {
        asked++;
        if (got != want) {
            wrong++;
            System.out.println(name + ": " + what + " answered " + got + ", due is " + want);
        }
    }

    void due(String what, boolean got, boolean want) {
        due(what, got ? 1 : 0, want ? 1 : 0);
    }

    void end() {
        System.out.println(name + ": " + asked + " answers, " + wrong + " of them wrong");
        if (wrong > 0) {
            System.exit(1);
        }
    }
}
