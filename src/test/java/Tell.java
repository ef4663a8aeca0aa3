import java.io.IOException;
import java.nio.file.Files;
import java.nio.file.Path;
import java.util.ArrayList;
import java.util.List;

/** Texts for the tape, and answers held against those that are due. */
final class Tell {
    private final String name;
    private final List<String> sentences = new ArrayList<>();
    private String sentence = "";
    private int wrong = 0;
    private int asked = 0;

    Tell(String name) {
        this.name = name;
    }

    /** The text comes behind the tape, blanks behind it up to twenty bytes. */
    static void feed(FlexGrid g, String text) {
        for (int at = 0; at < text.length(); at += 20) {
            int[] five = new int[5];
            for (int i = 0; i < 20; i++) {
                int sign = at + i < text.length() ? text.charAt(at + i) : 32;
                five[i / 4] |= sign << 24 - i % 4 * 8;
            }
            g.feed(five[0], five[1], five[2], five[3], five[4]);
        }
    }

    static int grid(FlexGrid g, String text) {
        feed(g, text);
        return g.grid(text.length());
    }

    static int works(FlexGrid g, String text) {
        feed(g, text);
        return g.works(text.length());
    }

    static int check(FlexGrid g, int... firsts) {
        StringBuilder b = new StringBuilder();
        for (int first : firsts) {
            b.append((char) first);
        }
        feed(g, b.toString());
        return g.check(firsts.length);
    }

    static FlexGrid gridOf(String text) {
        FlexGrid g = new FlexGrid();
        int answer = grid(g, text);
        if (answer < 0) {
            throw new IllegalStateException(text + ": " + answer);
        }
        return g;
    }

    /** A grid whose steps must all be done, so that no test stands on a state that it did not reach. */
    static FlexGrid gridWith(String text, String... works) {
        FlexGrid g = gridOf(text);
        for (String steps : works) {
            int done = works(g, steps);
            if (done != steps.split(";").length) {
                throw new IllegalStateException(steps + ": " + done);
            }
        }
        return g;
    }

    /** The document's sentence that the next answers show. */
    void says(String words) {
        sentence = words;
        sentences.add(words);
    }

    void due(String what, int got, int want) {
        asked++;
        if (got != want) {
            wrong++;
            String where = sentence.isEmpty() ? "" : " (" + sentence + ")";
            System.out.println(name + where + ": " + what + " answered " + got + ", due is " + want);
        }
    }

    void due(String what, boolean got, boolean want) {
        due(what, got ? 1 : 0, want ? 1 : 0);
    }

    void due(String what, List<Integer> got, List<Integer> want) {
        int at = 0;
        while (at < got.size() && at < want.size() && got.get(at).equals(want.get(at))) {
            at++;
        }
        due(what + ", as many", got.size(), want.size());
        if (at < want.size() && at < got.size()) {
            due(what + ", at " + at, got.get(at), want.get(at));
        } else {
            asked++;
        }
    }

    void end() {
        String doc = System.getProperty("doc");
        if (doc != null) {
            quotesStandIn(doc);
        }
        System.out.println(name + ": " + asked + " answers, " + wrong + " of them wrong");
        if (wrong > 0) {
            System.exit(1);
        }
    }

    /** With -Ddoc=../shared/DOC.md the sentences are looked up there; the tests do not hang on the file. */
    private void quotesStandIn(String doc) {
        try {
            String all = Files.readString(Path.of(doc)).replaceAll("\\s+", " ");
            for (String words : sentences) {
                due("the document says: " + words, all.contains(words), true);
            }
        } catch (IOException e) {
            due("the document is there: " + doc, false, true);
        }
    }
}
