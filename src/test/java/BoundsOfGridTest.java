/** The bounds of a GRID and of its TEXT: the last that is allowed and the first that is not, on both sides. */
public final class BoundsOfGridTest {
    private static final Tell T = new Tell("BoundsOfGridTest");
    private static final String[] WORDS = {"nodes", "slots", "between", "reach", "link"};
    private static final String[] NUMBERS = {" 2", " 9", " 1", " 9 8 7 6", " 0 1 5"};
    /** Fourteen links, eleven bytes each with the ; ahead. */
    private static final String FOURTEEN = "nodes 6" + links(0, 5) + links(1, 5) + links(2, 5)
        + ";link 3 4 1;link 3 5 1";

    private BoundsOfGridTest() { }

    public static void main(String[] args) {
        nodes();
        slots();
        between();
        links();
        lengths();
        upOrCut();
        reachesAtFirst();
        reaches();
        reachesInOrder();
        bytesOfAText();
        clauses();
        signsBetween();
        digits();
        blanks();
        nodesToldSoFar();
        words();
        numbersOfAWord();
        toldTwice();
        begunAnew();
        theFirstFromTheLeft();
        whatCannotStandThere();
        aSixthDigit();
        noneOfThoseTold();
        nodesBehindALink();
        aClauseTooMany();
        linksOfLikeNodes();
        aFifteenthLink();
        theOneBeforeStays();
        noSuchN();
        waysOfTheNewGrid();
        textsWithSignsBehind();
        T.end();
    }

    private static String links(int from, int to) {
        StringBuilder b = new StringBuilder();
        for (int q = from + 1; q <= to; q++) {
            b.append(";link ").append(from).append(' ').append(q).append(" 1");
        }
        return b.toString();
    }

    private static void stands(String text, int what, int want) {
        FlexGrid g = new FlexGrid();
        T.due(text, Tell.grid(g, text), text.split(";").length);
        T.due(text + ": gridIs " + what, g.gridIs(what), want);
    }

    private static void fault(String text, int number, int place) {
        FlexGrid g = Tell.gridOf("nodes 3;slots 11;link 0 2 7");
        T.due(text, Tell.grid(g, text), -1000 * number - place);
        T.due(text + ": slots stay", g.gridIs(1), 11);
        T.due(text + ": clauses stay", g.count(2), 3);
        T.due(text + ": the tape is empty", g.count(1), 0);
    }

    private static void nodes() {
        T.says("NODES 0 to n less 1 (n 2 to 8; at first 2).");
        FlexGrid g = new FlexGrid();
        T.due("two at first", g.gridIs(0), 2);
        T.due("0 and 1", g.way(0, 1, 0, 4), 0);
        T.due("2 is none", g.way(0, 2, 0, 4), -1);
        T.due("-1 is none", g.way(-1, 0, 0, 4), -1);
        fault("nodes 0", 3, 6);
        fault("nodes 1", 3, 6);
        stands("nodes 2", 0, 2);
        stands("nodes 8", 0, 8);
        fault("nodes 9", 3, 6);
        FlexGrid eight = Tell.gridOf("nodes 8");
        T.due("7 is the last", eight.way(7, 0, 0, 4), 0);
        T.due("8 is none", eight.way(8, 0, 0, 4), -1);
        FlexGrid two = Tell.gridOf("nodes 2");
        T.due("of two 1 is the last", two.way(1, 0, 0, 4), 0);
        T.due("of two 2 is none", two.way(2, 0, 0, 4), -1);
    }

    private static void slots() {
        T.says("SLOTS 0 to m less 1 of each LINK (m 8 to 60; 40 at first).");
        T.due("forty at first", new FlexGrid().gridIs(1), 40);
        fault("slots 7", 3, 6);
        stands("slots 8", 1, 8);
        stands("slots 60", 1, 60);
        fault("slots 61", 3, 6);
        int[] sizes = {8, 40, 60};
        for (int m : sizes) {
            FlexGrid g = Tell.gridOf(m == 40 ? "link 0 1 9" : "slots " + m + ";link 0 1 9");
            T.due("all free of " + m, g.linkIs(0, 6), m);
            T.due("the last of " + m, g.witness(0, 1, 1, 0, m - 1), -2);
            T.due("behind the last of " + m, g.witness(0, 1, 1, 0, m), -1);
            T.due("ahead of 0", g.witness(0, 1, 1, 0, -1), -1);
            g.ask(0, 1, 1, 3);
            T.due("the highest of " + m, g.demandIs(0, 4), m - 1);
        }
    }

    private static void between() {
        T.says("BETWEEN: so many free slots (0 to 4; 1).");
        T.due("one at first", new FlexGrid().gridIs(2), 1);
        fault("between 5", 3, 8);
        for (int free = 0; free <= 4; free++) {
            stands("between " + free, 2, free);
            FlexGrid g = Tell.gridOf("between " + free + ";link 0 1 9");
            g.ask(0, 1, 1, 0);
            g.ask(0, 1, 1, 0);
            T.due("so many between", g.demandIs(1, 4), 1 + free);
        }
    }

    private static void links() {
        T.says("LINKS, 14 at most, numbered as told: two NODES, a LENGTH (1 to 99); each up or cut.");
        stands(FOURTEEN, 3, 14);
        fault(FOURTEEN + ";link 4 5 1", 6, FOURTEEN.length() + 1);
        FlexGrid g = Tell.gridOf(FOURTEEN);
        T.due("the last link", g.linkIs(13, 1), 5);
        T.due("no 15th", g.linkIs(14, 1), -1);
        T.due("none below 0", g.linkIs(-1, 1), -1);
        T.due("all up", g.gridIs(4), (1 << 14) - 1);
        T.due("cut the last", g.cut(13), 0);
        T.due("no 15th to cut", g.cut(14), -1);
        T.due("all but the last", g.gridIs(4), (1 << 13) - 1);
        T.due("no slot of fourteen", g.gridIs(11), 0);
        T.due("no top of fourteen", g.gridIs(10), -1);
        T.due("mended", g.mend(13), true);
        T.due("one on the last", g.ask(3, 5, 4, 3), 0);
        T.due("its bits", g.demandIs(0, 7), 1 << 13);
        T.due("the last is used", g.linkIs(13, 5), 39);
        T.due("top of fourteen", g.gridIs(10), 39);
        T.due("one slot of fourteen", g.gridIs(11), 1);
        T.due("one on it", g.linkIs(13, 9), 1);
        T.due("none ahead of it", g.linkIs(12, 9), 0);
        FlexGrid none = new FlexGrid();
        T.due("no link at first", none.linkIs(0, 0), -1);
        FlexGrid told = Tell.gridOf("nodes 3;link 2 1 5;link 1 0 6");
        T.due("the first told", told.linkIs(0, 0), 2);
        T.due("the second told", told.linkIs(1, 0), 1);
        T.due("its other node", told.linkIs(1, 1), 0);
    }

    private static void lengths() {
        T.says("two NODES, a LENGTH (1 to 99); each up or cut.");
        fault("link 0 1 0", 3, 9);
        stands("link 0 1 1", 3, 1);
        stands("link 0 1 99", 3, 1);
        fault("link 0 1 100", 3, 9);
        T.due("1", Tell.gridOf("link 0 1 1").linkIs(0, 2), 1);
        T.due("99", Tell.gridOf("link 0 1 99").linkIs(0, 2), 99);
    }

    private static void upOrCut() {
        T.says("each up or cut.");
        FlexGrid g = Tell.gridOf("nodes 3;link 0 1 9;link 1 2 9");
        T.due("up", g.linkIs(1, 3), 1);
        g.cut(1);
        T.due("cut", g.linkIs(1, 3), 0);
        T.due("the other is up", g.linkIs(0, 3), 1);
        g.mend(1);
        T.due("up again", g.linkIs(1, 3), 1);
    }

    /** One way of so many, by links of 99 at most. */
    private static FlexGrid far(String ahead, int length) {
        int one = Math.min(99, length - 2);
        int two = Math.min(99, length - one - 1);
        return Tell.gridOf(ahead + "nodes 4;link 0 1 " + one + ";link 1 2 " + two + ";link 2 3 "
            + (length - one - two));
    }

    private static void reachesAtFirst() {
        T.says("REACHES of FORMATS 0 to 3 (at first 200, 120, 80, 40): how long a WAY may be at most by it");
        int[][] want = {{39, 3}, {40, 3}, {41, 2}, {80, 2}, {81, 1}, {120, 1}, {121, 0}, {200, 0}, {201, -2}};
        for (int[] w : want) {
            FlexGrid g = far("", w[0]);
            T.due("so long: " + w[0], g.way(0, 3, 0, 0), w[0]);
            T.due("format of " + w[0], g.way(0, 3, 0, 3), w[1]);
        }
        int[] reach = {200, 120, 80, 40};
        for (int f = 0; f < 4; f++) {
            T.due("reach " + f, new FlexGrid().gridIs(20 + f), reach[f]);
        }
        T.due("no format 4", new FlexGrid().gridIs(24), -2);
    }

    private static void reaches() {
        T.says("(0 to 999 each, none above the one ahead); by FORMAT f a slot carries f + 1.");
        stands("reach 0 0 0 0", 20, 0);
        stands("reach 999 999 999 999", 23, 999);
        fault("reach 1000 9 9 9", 3, 6);
        fault("reach 999 1000 9 9", 3, 10);
        fault("reach 999 999 1000 9", 3, 14);
        fault("reach 999 999 999 1000", 3, 18);
        T.due("none carries", Tell.gridOf("reach 0 0 0 0;link 0 1 1").way(0, 1, 0, 3), -2);
        T.due("the shortest", Tell.gridOf("reach 1 0 0 0;link 0 1 1").way(0, 1, 0, 3), 0);
        T.due("the longest of three", far("reach 999 999 999 999;", 297).way(0, 3, 0, 3), 3);
        for (int f = 0; f < 4; f++) {
            StringBuilder b = new StringBuilder("reach");
            for (int i = 0; i < 4; i++) {
                b.append(i <= f ? " 9" : " 8");
            }
            FlexGrid g = Tell.gridOf(b + ";slots 60;link 0 1 9");
            T.due("a slot of format " + f, g.found(0, 1, f + 1, 0, 2), 1);
            T.due("no more in it, format " + f, g.found(0, 1, f + 2, 0, 2), 2);
        }
    }

    private static void reachesInOrder() {
        T.says("also a reach above the one ahead");
        stands("reach 5 5 5 5", 23, 5);
        stands("reach 5 4 3 2", 23, 2);
        fault("reach 5 6 0 0", 3, 8);
        fault("reach 5 4 5 0", 3, 10);
        fault("reach 5 4 3 4", 3, 12);
        fault("reach 0 1 0 0", 3, 8);
        fault("reach 999 200 121 120;reach 5 999 0 0", 3, 30);
    }

    private static void bytesOfAText() {
        T.says("A GRID: a TEXT of at most 200 bytes:");
        String text = "slots 00009;".repeat(16) + "slots 08";
        FlexGrid g = new FlexGrid();
        Tell.feed(g, text);
        T.due("200 of 200", g.grid(200), 17);
        T.due("eight", g.gridIs(1), 8);
        Tell.feed(g, text + "8");
        T.due("201", g.grid(201), -1);
        T.due("the tape stays", g.count(1), 220);
        T.due("199: the last digit is left out", g.grid(199), -3198);
        Tell.feed(g, "slots 00009;".repeat(16) + "slots 9;");
        T.due("the end at the 200th place", g.grid(200), -1200);
        Tell.feed(g, "slots 00009;".repeat(16) + "slots  9");
        T.due("a fault at the last but one", g.grid(200), -1198);
    }

    private static void clauses() {
        T.says("CLAUSES with a ; (59) between two, 24 at most, each a word and NUMBERS");
        String[] few = {"slots 9", "slots 9;slots 9"};
        for (int i = 0; i < few.length; i++) {
            FlexGrid g = new FlexGrid();
            T.due(few[i], Tell.grid(g, few[i]), i + 1);
            T.due("counted", g.count(2), i + 1);
        }
        FlexGrid g = new FlexGrid();
        T.due("23", Tell.grid(g, "slots 9" + ";slots 9".repeat(22)), 23);
        T.due("24", Tell.grid(g, "slots 9" + ";slots 9".repeat(23)), 24);
        T.due("25", Tell.grid(g, "slots 8" + ";slots 8".repeat(24)), -4192);
        T.due("24 stay", g.count(2), 24);
        T.due("nine stay", g.gridIs(1), 9);
        fault(";", 1, 0);
        fault("slots 9;", 1, 8);
        fault("slots 9;;slots 9", 1, 8);
        fault(";slots 9", 1, 0);
    }

    private static void signsBetween() {
        T.says("CLAUSES with a ; (59) between two");
        fault("slots 9:slots 8", 1, 7);
        fault("slots 9<slots 8", 1, 7);
        fault("slots 9,slots 8", 1, 7);
        fault("slots 9" + (char) 0 + "slots 8", 1, 7);
        fault("slots 9" + (char) (59 + 128) + "slots 8", 1, 7);
        fault("slots 9slots 8", 1, 7);
    }

    private static void digits() {
        T.says("NUMBERS (one to five digits) with one blank (32) ahead of each:");
        stands("slots 9", 1, 9);
        stands("slots 09", 1, 9);
        stands("slots 00009", 1, 9);
        fault("slots 000009", 2, 11);
        fault("slots ", 1, 6);
        fault("slots ;", 1, 6);
        fault("slots /", 1, 6);
        fault("slots :", 1, 6);
        fault("slots 9/", 1, 7);
        fault("slots -9", 1, 6);
        fault("slots +9", 1, 6);
        stands("reach 00999 00009 00008 00000", 21, 9);
    }

    private static void blanks() {
        T.says("with one blank (32) ahead of each");
        fault("slots9", 1, 5);
        fault("slots  9", 1, 6);
        fault("slots 9 ", 1, 7);
        fault("slots" + (char) 31 + "9", 1, 5);
        fault("slots!9", 1, 5);
        fault("slots" + (char) 9 + "9", 1, 5);
        fault("slots" + (char) (32 + 128) + "9", 1, 5);
        fault("link 0  1 5", 1, 7);
        fault("link 0 1  5", 1, 9);
        fault("link 0,1 5", 1, 6);
        fault(" slots 9", 1, 0);
        fault("slots 9; slots 9", 1, 8);
        fault("slots 9 ;slots 9", 1, 7);
    }

    private static void nodesToldSoFar() {
        T.says("link P Q L (P, Q NODES as told so far).");
        stands("link 0 1 5", 3, 1);
        stands("link 1 0 5", 3, 1);
        fault("link 2 0 5", 3, 5);
        fault("link 0 2 5", 3, 7);
        stands("nodes 3;link 2 0 5", 3, 1);
        fault("nodes 3;link 3 0 5", 3, 13);
        fault("nodes 3;link 0 3 5", 3, 15);
        stands("nodes 8;link 7 6 5", 3, 1);
        fault("nodes 8;link 7 8 5", 3, 15);
        fault("nodes 8;nodes 3;link 7 0 5", 3, 21);
        stands("nodes 3;nodes 8;link 7 0 5", 3, 1);
    }

    private static void words() {
        T.says("Words are as far as small letters go on;");
        for (int i = 0; i < WORDS.length; i++) {
            String word = WORDS[i];
            String numbers = NUMBERS[i];
            fault(word.substring(0, word.length() - 1) + numbers, 1, 0);
            fault(word.substring(1) + numbers, 1, 0);
            fault(word + "a" + numbers, 1, 0);
            fault(word + "z" + numbers, 1, 0);
            fault(word + "`" + numbers, 1, word.length());
            fault(word + "{" + numbers, 1, word.length());
            fault(word + "A" + numbers, 1, word.length());
            fault(word.substring(0, 1).toUpperCase() + word.substring(1) + numbers, 1, 0);
            fault("slots 9;x" + word + numbers, 1, 8);
        }
        fault("slotsslots 9", 1, 0);
        fault("z 9", 1, 0);
        fault("sweep", 1, 0);
    }

    private static void numbersOfAWord() {
        T.says("nodes N, slots N, between N, reach N N N N, link P Q L");
        for (int i = 0; i < WORDS.length; i++) {
            String right = WORDS[i] + NUMBERS[i];
            T.due(right, Tell.grid(new FlexGrid(), right), 1);
            fault(right.substring(0, right.length() - 2), 1, right.length() - 2);
            fault(right.substring(0, right.length() - 2) + ";slots 9", 1, right.length() - 2);
            fault(right + " 1", 1, right.length());
            fault(WORDS[i], 1, WORDS[i].length());
        }
    }

    private static void toldTwice() {
        T.says("what is told twice counts as told last (each link comes to those there are).");
        stands("nodes 8;nodes 2", 0, 2);
        stands("slots 60;slots 8", 1, 8);
        stands("between 4;between 0", 2, 0);
        stands("reach 9 8 7 6;reach 999 5 4 3", 20, 999);
        stands("reach 9 8 7 6;reach 5 5 5 5", 23, 5);
        stands("nodes 3;link 0 1 5;link 1 2 5", 3, 2);
        stands("slots 60;link 0 1 5;slots 8", 1, 8);
    }

    private static void begunAnew() {
        T.says("A new GRID begins with all as at first, without LINKS, without DEMANDS, THE CLOCK at 0 (X stays).");
        FlexGrid g = Tell.gridWith("nodes 8;slots 60;between 4;reach 9 8 7 6;link 7 6 5", "ask 7 6 9 0;ticks 9;cut 0");
        g.seed(65535);
        T.due("anew", Tell.grid(g, "slots 40"), 1);
        FlexGrid first = new FlexGrid();
        first.seed(65535);
        for (int what = 0; what < 24; what++) {
            T.due("as at first: gridIs " + what, g.gridIs(what), first.gridIs(what));
        }
        T.due("no link", g.linkIs(0, 0), -1);
        T.due("no demand", g.demandIs(0, 3), -1);
        T.due("the link is up again", Tell.grid(g, "nodes 8;link 7 6 5"), 2);
        T.due("none is cut", g.gridIs(4), 1);
        T.due("none is used", g.linkIs(0, 4), 0);
        T.due("the next is number 0", g.ask(7, 6, 1, 0), 0);
    }

    private static void theFirstFromTheLeft() {
        T.says("FAULTS, the first from the left (of one place that of the least number):");
        fault("x;slots 123456", 1, 0);
        fault("slots 123456;x", 2, 11);
        fault("slots 61;x", 3, 6);
        fault("slots 61x", 3, 6);
        fault("link 0 0 5;x", 6, 7);
        fault("link 0 0x", 6, 7);
        fault("slots 9;between 5;slots 123456", 3, 16);
        fault("slots 9;slots 123456;between 5", 2, 19);
        fault(FOURTEEN + ";link 9 9 9", 6, FOURTEEN.length() + 1);
        fault(FOURTEEN + ";x", 1, FOURTEEN.length() + 1);
    }

    private static void whatCannotStandThere() {
        T.says("1 what can't stand there (the end, too; of a word at its first letter);");
        fault("?", 1, 0);
        fault("9", 1, 0);
        fault("" + (char) 255, 1, 0);
        fault("slots 9;slotx 9", 1, 8);
        fault("slots", 1, 5);
        fault("slots ", 1, 6);
        fault("slots 9;", 1, 8);
        fault("slot", 1, 0);
        fault("s", 1, 0);
        fault("link 0", 1, 6);
        fault("link 0 ", 1, 7);
    }

    private static void aSixthDigit() {
        T.says("2 a sixth digit, at it;");
        fault("slots 123456", 2, 11);
        fault("slots 1234567", 2, 11);
        fault("slots 000009x", 2, 11);
        fault("reach 9 8 7 000006", 2, 17);
        fault("link 000000 1 5", 2, 10);
        fault("link 0 000000 5", 2, 12);
        fault("link 0 1 5;nodes 000002", 2, 22);
        fault("slots 99999", 3, 6);
        fault("slots 99999999999999999999", 2, 11);
    }

    private static void noneOfThoseTold() {
        T.says("at its first digit, asked when it ends;");
        fault("slots 00007", 3, 6);
        fault("slots 00061;x", 3, 6);
        fault("slots 61 ", 3, 6);
        fault("reach 09999 1 1 1", 3, 6);
        fault("nodes 00009", 3, 6);
        fault("between 00005", 3, 8);
        fault("link 00002 0 5", 3, 5);
        fault("link 0 00002 5", 3, 7);
        fault("link 0 1 00000", 3, 9);
        fault("link 0 1 99999", 3, 9);
    }

    private static void nodesBehindALink() {
        T.says("nodes, if a LINK is told");
        fault("link 0 1 5;nodes 3", 3, 17);
        fault("link 0 1 5;nodes 2", 3, 17);
        fault("nodes 3;link 0 1 5;slots 9;nodes 3", 3, 33);
        fault("link 0 1 5;nodes", 1, 16);
        fault("link 0 1 5;nodes x", 1, 17);
        stands("nodes 3;slots 9;nodes 4;link 0 1 5", 0, 4);
    }

    private static void aClauseTooMany() {
        T.says("4 a CLAUSE too many, where it begins (whatever stands there);");
        String full = "slots 9" + ";slots 9".repeat(23) + ";";
        fault(full + "slots 9", 4, 192);
        fault(full + "slots 61", 4, 192);
        fault(full + "x", 4, 192);
        fault(full + "?", 4, 192);
        fault(full + ";", 4, 192);
        fault(full + " ", 4, 192);
        fault(full, 4, 192);
        fault(full.substring(0, 191) + " ", 1, 191);
        fault("slots 9" + ";slots 9".repeat(22) + ";slots 7", 3, 190);
        fault("slots 9" + ";slots 9".repeat(22) + ";", 1, 184);
    }

    private static void linksOfLikeNodes() {
        T.says("6 a LINK of a NODE with itself, of two NODES that have one, at the second NUMBER (behind 3);");
        fault("link 0 0 5", 6, 7);
        fault("link 1 1 5", 6, 7);
        fault("link 1 00001 5", 6, 7);
        fault("link 2 2 5", 3, 5);
        fault("link 0 1 5;link 0 1 6", 6, 18);
        fault("link 0 1 5;link 1 0 6", 6, 18);
        fault("link 0 1 5;link 1 0 0", 6, 18);
        fault("link 0 1 5;link 1 2 6", 3, 18);
        fault("link 0 1 5;link 0 0", 6, 18);
        fault("nodes 3;link 0 1 5;link 1 2 5;link 2 1 5", 6, 37);
        stands("nodes 3;link 0 1 5;link 1 2 5;link 2 0 5", 3, 3);
    }

    private static void aFifteenthLink() {
        T.says("a 15th LINK, at link.");
        int place = FOURTEEN.length() + 1;
        fault(FOURTEEN + ";link 4 5 1", 6, place);
        fault(FOURTEEN + ";link 0 1 1", 6, place);
        fault(FOURTEEN + ";link", 6, place);
        fault(FOURTEEN + ";slots 9;link 4 5 1", 6, place + 8);
        fault(FOURTEEN + ";lin", 1, place);
        fault(FOURTEEN + ";linkx", 1, place);
        stands(FOURTEEN + ";slots 9", 3, 14);
    }

    private static void theOneBeforeStays() {
        T.says("a FAULT: -1000 times its number, less its place (the one before stays);");
        FlexGrid g = Tell.gridWith("nodes 3;slots 20;link 0 1 30", "ask 0 1 8 0;ticks 7;ask 0 1 8 0;drop 0");
        g.seed(9);
        T.due("a fault at the last number", Tell.grid(g, "nodes 8;between 4;reach 9 9 9 9;link 7 6 5;link 6 5 0"),
            -3052);
        int[] want = {3, 20, 1, 1, 1, 2, 1, 0, 0, 1, 4, 2, 7, 9};
        for (int what = 0; what < want.length; what++) {
            T.due("gridIs " + what, g.gridIs(what), want[what]);
        }
        T.due("reach", g.gridIs(20), 200);
        T.due("length", g.linkIs(0, 2), 30);
        T.due("ways", g.way(0, 1, 0, 0), 30);
        T.due("clauses", g.count(2), 3);
        T.due("no link of the other", g.linkIs(1, 0), -1);
    }

    private static void noSuchN() {
        T.says("NONE: no such n, it has not so many (the tape stays).");
        FlexGrid g = new FlexGrid();
        T.due("an empty tape", g.grid(1), -1);
        Tell.feed(g, "slots 20;link 0 1 30");
        int[] none = {0, -1, 21, 200, 201, Integer.MAX_VALUE, Integer.MIN_VALUE};
        for (int n : none) {
            T.due("n " + n, g.grid(n), -1);
            T.due("the tape stays", g.count(1), 20);
        }
        T.due("all of the tape", g.grid(20), 2);
        T.due("empty then", g.count(1), 0);
        Tell.feed(g, "slots 9;slots 10");
        T.due("a part of it", g.grid(7), 1);
        T.due("nine", g.gridIs(1), 9);
        T.due("empty then, too", g.count(1), 0);
        Tell.feed(g, "s");
        T.due("one byte", g.grid(1), -1000);
    }

    private static void waysOfTheNewGrid() {
        T.says("A new GRID begins with all as at first, without LINKS");
        FlexGrid g = Tell.gridOf("nodes 3;link 0 1 30;link 1 2 30");
        T.due("60", g.way(0, 2, 0, 0), 60);
        T.due("kept", g.keep(), 0);
        Tell.grid(g, "nodes 3;link 0 1 7;link 1 2 7");
        T.due("as many links, shorter", g.way(0, 2, 0, 0), 14);
        Tell.grid(g, "nodes 3;link 0 2 7;link 1 2 8");
        T.due("as many links, elsewhere", g.way(0, 2, 0, 2), 1);
        T.due("undone", g.undo(), true);
        T.due("60 again", g.way(0, 2, 0, 0), 60);
        T.due("by both", g.way(0, 2, 0, 2), 3);
        T.due("a fault", Tell.grid(g, "nodes 3;link 0 2 7;link 1 2 0"), -3028);
        T.due("60 still", g.way(0, 2, 0, 0), 60);
    }

    private static void textsWithSignsBehind() {
        T.says("A GRID by the first n bytes of the tape");
        FlexGrid g = new FlexGrid();
        Tell.feed(g, "slots 9;slots 10;nod");
        T.due("digits behind", g.grid(15), -3014);
        Tell.feed(g, "slots 90");
        T.due("one digit of two", g.grid(7), 1);
        T.due("nine", g.gridIs(1), 9);
        Tell.feed(g, "slots 8;slots 9");
        T.due("a letter of the next word", g.grid(9), -1008);
        T.due("one long word", Tell.works(g, "sweepsweepsweep"), -1000);
        Tell.feed(g, "sweepsweepsweep");
        T.due("letters behind", g.works(5), 1);
        Tell.feed(g, "slotsslots 9");
        T.due("letters behind, too", g.grid(5), -1005);
        Tell.feed(g, "ticks 99");
        T.due("a digit behind", g.works(7), 1);
        T.due("nine times", g.gridIs(12), 9);
    }
}
