/** The bounds of WORKS: their TEXT, its FAULTS, and what ends them. */
public final class BoundsOfWorksTest {
    private static final Tell T = new Tell("BoundsOfWorksTest");
    private static final String LINE = "slots 20;link 0 1 30";
    /** Each word, its numbers as great as they may be. */
    private static final String[] GREATEST = {"ask 99 99 99 3", "drop 99", "slide 99", "sweep", "jump 99 99", "cut 99",
        "mend 99", "relight 3", "plan 3", "lasts 99 99", "ticks 99"};

    private BoundsOfWorksTest() { }

    public static void main(String[] args) {
        bytesOfAText();
        steps();
        words();
        numbersOfAWord();
        numbersUpTo99();
        rules();
        likewise();
        nothingIsDone();
        tillOneIsRefused();
        refusedSteps();
        asksThatAreBlocked();
        doneThoughNothingMoves();
        spoiledPlans();
        fortyDemands();
        theLastTime();
        noSuchN();
        T.end();
    }

    private static void fault(String text, int number, int place) {
        FlexGrid g = Tell.gridWith(LINE, "ask 0 1 8 0");
        T.due(text, Tell.works(g, text), -1000 * number - place);
        T.due(text + ": no demand more", g.gridIs(5), 1);
        T.due(text + ": it stays lit", g.demandIs(0, 4), 0);
        T.due(text + ": the tape is empty", g.count(1), 0);
    }

    private static void bytesOfAText() {
        T.says("WORKS: a TEXT of at most 200 bytes:");
        String text = "ticks 00001;".repeat(16) + "ticks 01";
        FlexGrid g = new FlexGrid();
        Tell.feed(g, text);
        T.due("200 of 200", g.works(200), 17);
        T.due("seventeen went by", g.gridIs(12), 17);
        Tell.feed(g, text + "1");
        T.due("201", g.works(201), -1);
        T.due("the tape stays", g.count(1), 220);
        T.due("199: ticks 0 is the last", g.works(199), 16);
        T.due("sixteen more", g.gridIs(12), 33);
        Tell.feed(g, "ticks 00001;".repeat(16) + "ticks 1;");
        T.due("the end at the 200th place", g.works(200), -1200);
        T.due("none of them", g.gridIs(12), 33);
    }

    private static void steps() {
        T.says("STEPS likewise, 24 at most:");
        FlexGrid g = new FlexGrid();
        T.due("1", Tell.works(g, "ticks 1"), 1);
        T.due("23", Tell.works(g, "ticks 1" + ";ticks 1".repeat(22)), 23);
        T.due("24", Tell.works(g, "ticks 1" + ";ticks 1".repeat(23)), 24);
        T.due("the clock", g.gridIs(12), 48);
        String full = "ticks 1;".repeat(24);
        T.due("25", Tell.works(g, full + "ticks 1"), -4192);
        T.due("25, whatever stands there", Tell.works(g, full + "?"), -4192);
        T.due("25, of no word", Tell.works(g, full + "x"), -4192);
        T.due("25, where it ends", Tell.works(g, full), -4192);
        T.due("none was done", g.gridIs(12), 48);
        T.due("the 24th is wrong", Tell.works(g, "ticks 1;".repeat(23) + "tick 1"), -1184);
        T.due("the 24th is not there", Tell.works(g, "ticks 1;".repeat(23)), -1184);
    }

    private static void words() {
        T.says("ask P Q R U (U a RULE, 0 to 3: above it FAULT 3, here and below), drop D, slide D, sweep, jump D S,");
        for (String step : GREATEST) {
            String word = step.split(" ")[0];
            String numbers = step.substring(word.length());
            fault(word.substring(0, word.length() - 1) + numbers, 1, 0);
            fault(word + "a" + numbers, 1, 0);
            fault(word + "z" + numbers, 1, 0);
            fault(word + "{" + numbers, 1, word.length());
            fault(word + "`" + numbers, 1, word.length());
            fault(word + "S" + numbers, 1, word.length());
            fault(word.substring(0, 1).toUpperCase() + word.substring(1) + numbers, 1, 0);
        }
        fault("sweeps", 1, 0);
        fault("keep", 1, 0);
        fault("seed 1", 1, 0);
        fault("nodes 3", 1, 0);
    }

    private static void numbersOfAWord() {
        T.says("cut L, mend L, relight U, plan U (the moves of a REPACK's PLAN are done), lasts D N, ticks N.");
        for (String step : GREATEST) {
            fault(step + " 1", 1, step.length());
            fault(step + " ", 1, step.length());
            fault(step + ";", 1, step.length() + 1);
            int last = step.lastIndexOf(' ');
            if (last >= 0) {
                fault(step.substring(0, last), 1, last);
                fault(step.substring(0, last) + ";sweep", 1, last);
                fault(step.substring(0, last) + "  1", 1, last + 1);
            }
        }
    }

    /** A step with another text in place of number i; the place of it is where the number began. */
    private static void instead(String step, int i, String number, int fault, int behind) {
        String[] parts = step.split(" ");
        StringBuilder b = new StringBuilder();
        int place = 0;
        for (int p = 0; p < parts.length; p++) {
            b.append(p == 0 ? "" : " ");
            if (p == i) {
                place = b.length();
            }
            b.append(p == i ? number : parts[p]);
        }
        fault(b.toString(), fault, place + behind);
    }

    private static void numbersUpTo99() {
        T.says("NUMBERS 0 to 99 (R, too).");
        for (String step : GREATEST) {
            String[] parts = step.split(" ");
            FlexGrid g = new FlexGrid();
            T.due("no fault: " + step, Tell.works(g, step) >= 0, true);
            T.due("no fault: least " + parts[0], Tell.works(g, parts[0] + " 0".repeat(parts.length - 1)) >= 0, true);
            for (int i = 1; i < parts.length; i++) {
                if (parts[i].equals("99")) {
                    instead(step, i, "100", 3, 0);
                    instead(step, i, "00100", 3, 0);
                    instead(step, i, "99999", 3, 0);
                }
                instead(step, i, "000001", 2, 5);
                instead(step, i, "x", 1, 0);
                instead(step, i, "-1", 1, 0);
            }
        }
        FlexGrid g = Tell.gridOf(LINE);
        T.due("00099 times", Tell.works(g, "ticks 00099"), 1);
        T.due("ninety-nine", g.gridIs(12), 99);
        T.due("a rate of 64", Tell.works(g, "ask 0 1 64 0"), 1);
        T.due("a rate of 65 is refused, no fault", Tell.works(g, "ask 0 1 65 0"), 0);
        T.due("a rate of 99 is refused, no fault", Tell.works(g, "ask 0 1 99 0"), 0);
    }

    private static void rules() {
        T.says("(U a RULE, 0 to 3: above it FAULT 3, here and below)");
        for (int rule = 0; rule <= 3; rule++) {
            FlexGrid g = Tell.gridOf(LINE);
            T.due("rule " + rule, Tell.works(g, "ask 0 1 8 " + rule + ";relight " + rule + ";plan " + rule), 3);
        }
        fault("ask 0 1 8 4", 3, 10);
        fault("ask 0 1 8 99", 3, 10);
        fault("ask 0 1 8 00004", 3, 10);
        fault("relight 4", 3, 8);
        fault("plan 4", 3, 5);
        fault("sweep;relight 4", 3, 14);
        fault("sweep;plan 4", 3, 11);
    }

    private static void likewise() {
        T.says("FAULTS 1 to 4 likewise.");
        fault("?", 1, 0);
        fault("sweep;;sweep", 1, 6);
        fault("sweep:sweep", 1, 5);
        fault("sweep sweep", 1, 5);
        fault("drop 100;x", 3, 5);
        fault("drop 100x", 3, 5);
        fault("drop 123456;x", 2, 10);
        fault("x;drop 100", 1, 0);
        fault("drop 1/", 1, 6);
        fault("drop 1:", 1, 6);
        fault("drop" + (char) 31 + "1", 1, 4);
        fault("drop!1", 1, 4);
    }

    private static void nothingIsDone() {
        T.says("a FAULT (nothing is done);");
        FlexGrid g = Tell.gridWith(LINE, "ask 0 1 8 0;ask 0 1 8 0");
        T.due("the last step has it",
            Tell.works(g, "drop 0;slide 1;jump 1 9;cut 0;mend 0;lasts 1 5;ticks 9;ask 0 1 8 0;drop"), -1071);
        T.due("none is gone", Tell.check(g, 0, 3), -1);
        T.due("none came", g.gridIs(5), 2);
        T.due("none is dark", g.gridIs(8), 0);
        T.due("no end", g.demandIs(1, 11), -2);
        T.due("no time", g.gridIs(12), 0);
    }

    private static void tillOneIsRefused() {
        T.says("They are done one by one, till one is refused");
        FlexGrid g = Tell.gridOf(LINE);
        T.due("the first", Tell.works(g, "drop 0;ask 0 1 8 0"), 0);
        T.due("none came", g.gridIs(5), 0);
        T.due("the third", Tell.works(g, "ask 0 1 8 0;ask 0 1 8 0;drop 2;drop 0"), 2);
        T.due("two came", g.gridIs(6), 2);
        T.due("the last", Tell.works(g, "drop 0;slide 1;slide 0"), 2);
        T.due("slid", g.demandIs(1, 4), 0);
        T.due("the tape is empty", g.count(1), 0);
    }

    private static void refusedSteps() {
        T.says("how many STEPS were done;");
        String[] refused = {"ask 0 0 1 0", "ask 3 0 1 0", "ask 0 3 1 0", "ask 0 1 0 0", "ask 0 1 65 0", "drop 4",
            "drop 3",
            "slide 1", "slide 2", "slide 3", "slide 4", "jump 0 0", "jump 0 1", "jump 0 19", "jump 0 20", "jump 1 9",
            "jump 4 9", "cut 2", "cut 1", "mend 0", "mend 2", "lasts 0 0", "lasts 1 5", "lasts 3 5", "lasts 4 5",
            "ticks 0"};
        for (String step : refused) {
            FlexGrid g = fourStates();
            T.due("refused: " + step, Tell.works(g, step + ";ask 0 1 4 0"), 0);
            T.due("none came behind: " + step, g.gridIs(5), 4);
        }
        String[] done = {"drop 0", "drop 1", "drop 2", "slide 0", "jump 0 2", "jump 0 18", "cut 0", "mend 1",
            "lasts 0 1",
            "lasts 2 99", "ticks 1", "ticks 99", "sweep"};
        for (String step : done) {
            FlexGrid g = fourStates();
            T.due("done: " + step, Tell.works(g, step + ";ask 0 1 4 0"), 2);
        }
    }

    /** DEMAND 0 is LIT, 1 BLOCKED, 2 DARK, 3 GONE; LINK 1 is cut. */
    private static FlexGrid fourStates() {
        return Tell.gridWith("nodes 3;slots 20;between 3;link 0 1 30;link 1 2 30",
            "ask 0 1 8 0;ask 0 1 64 0;ask 1 2 8 0;ask 0 1 4 0;drop 3;cut 1");
    }

    private static void asksThatAreBlocked() {
        T.says("(an ask that is BLOCKED is done; slide by 0, relight of none, a plan of no move, too;");
        FlexGrid g = Tell.gridOf("slots 8;link 0 1 30");
        T.due("too wide", Tell.works(g, "ask 0 1 33 0;ask 0 1 32 0;ask 0 1 1 0"), 3);
        T.due("two of them", g.gridIs(7), 2);
        T.due("and one lit", g.gridIs(6), 1);
        FlexGrid none = new FlexGrid();
        T.due("no way at all", Tell.works(none, "ask 0 1 1 0;sweep"), 2);
    }

    private static void doneThoughNothingMoves() {
        T.says("slide by 0, relight of none, a plan of no move, too;");
        FlexGrid g = Tell.gridWith(LINE, "ask 0 1 8 0");
        T.due("slide", Tell.works(g, "slide 0;sweep"), 2);
        T.due("relight", Tell.works(g, "relight 0;sweep"), 2);
        T.due("plan", Tell.works(g, "plan 0;sweep"), 2);
        T.due("sweep", Tell.works(g, "sweep;sweep"), 2);
        T.due("a cut that darkens none", Tell.works(g, "drop 0;cut 0;sweep"), 3);
        T.due("ticks that end none", Tell.works(g, "ticks 1;sweep"), 2);
        FlexGrid empty = new FlexGrid();
        T.due("an empty grid", Tell.works(empty, "sweep;relight 0;plan 0;ticks 1"), 4);
    }

    private static void spoiledPlans() {
        T.says("a plan that is spoiled is refused).");
        FlexGrid g = Spoiled.grid();
        T.due("refused", Tell.works(g, "sweep;plan 0;drop 1"), 1);
        T.due("not dropped", g.demandIs(1, 3), 0);
        T.due("not moved", g.demandIs(1, 7), 4);
        T.due("no longer spoiled", Tell.works(g, "drop 2;plan 0;sweep"), 3);
        T.due("moved", g.demandIs(1, 7), 3);
    }

    private static void fortyDemands() {
        T.says("-3: there are 40;");
        FlexGrid g = Tell.gridOf(LINE);
        for (int i = 0; i < 38; i++) {
            g.ask(0, 1, 1, 0);
        }
        T.due("two more", Tell.works(g, "ask 0 1 1 0;ask 0 1 1 0;ask 0 1 1 0;sweep"), 2);
        T.due("forty", g.count(0), 40);
    }

    private static void theLastTime() {
        T.says("-3: it would be above 99999;");
        FlexGrid g = new FlexGrid();
        for (int i = 0; i < 99; i++) {
            g.ticks(1000);
        }
        g.ticks(998);
        T.due("late", g.gridIs(12), 99998);
        T.due("two times more", Tell.works(g, "ticks 2;ticks 1"), 0);
        T.due("one", Tell.works(g, "ticks 1;ticks 1;sweep"), 1);
        T.due("the last", g.gridIs(12), 99999);
    }

    private static void noSuchN() {
        T.says("WORKS by the first n bytes of the tape (1 to 200; empty then):");
        FlexGrid g = new FlexGrid();
        T.due("an empty tape", g.works(1), -1);
        Tell.feed(g, "ticks 9;ticks 9;sweep");
        int[] none = {0, -1, 41, 200, 201, Integer.MAX_VALUE, Integer.MIN_VALUE};
        for (int n : none) {
            T.due("n " + n, g.works(n), -1);
            T.due("the tape stays", g.count(1), 40);
        }
        T.due("nothing was done", g.gridIs(12), 0);
        T.due("a part of it", g.works(7), 1);
        T.due("nine", g.gridIs(12), 9);
        T.due("empty then", g.count(1), 0);
        Tell.feed(g, "s");
        T.due("one byte", g.works(1), -1000);
        Tell.feed(g, "sweep;sweep;sweep;swe");
        T.due("blanks behind it count", g.works(40), -1018);
    }
}
