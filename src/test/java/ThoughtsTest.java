/** Promises 25 to 33: all laid anew, trials, parts, how many more, and what a cut would do. */
public final class ThoughtsTest {
    private static final Tell T = new Tell("ThoughtsTest");
    private static final String LINE = "slots 20;link 0 1 30";
    private static final String TRIANGLE = "nodes 3;slots 10;link 0 1 30;link 1 2 30;link 0 2 90";

    private ThoughtsTest() { }

    public static void main(String[] args) {
        repacks();
        staysWhereItIs();
        rings();
        waitsForARing();
        thoughtsRefused();
        trials();
        bestRules();
        partsOfRates();
        twentyPartsAtMost();
        howManyMore();
        cutsInThought();
        thoughtsChangeNothing();
        T.end();
    }

    private static FlexGrid works(String grid, String steps) {
        FlexGrid g = Tell.gridOf(grid);
        Tell.works(g, steps);
        return g;
    }

    private static void repackIs(FlexGrid g, int rule, int... want) {
        for (int what = 0; what < want.length; what++) {
            T.due("repack " + rule + " " + what, g.repack(rule, what), want[what]);
        }
    }

    private static void unravelIs(FlexGrid g, int rule, int... want) {
        for (int what = 0; what < want.length; what++) {
            T.due("unravel " + rule + " " + what, g.unravel(rule, what), want[what]);
        }
    }

    private static void plannedIs(FlexGrid g, int rule, int i, int... want) {
        for (int what = 0; what < want.length; what++) {
            T.due("planned " + rule + " " + i + " " + what, g.planned(rule, i, what), want[what]);
        }
    }

    private static void repacks() {
        FlexGrid g = works(LINE, "ask 0 1 8 0;ask 0 1 8 0;ask 0 1 8 0;drop 0");
        repackIs(g, 0, 4, 2, 2, 0, 4, 0);
        plannedIs(g, 0, 0, 1, 0, 1);
        plannedIs(g, 0, 1, 2, 3, 1);
        plannedIs(g, 0, 2, -4, -4, -4);
        T.due("waits for none", g.waits(0, 1), 0);
        T.due("waits for one", g.waits(0, 2), 1);
        T.due("gone: no move", g.waits(0, 0), -4);
        unravelIs(g, 0, 0, 2, 0, 4);
        FlexGrid two = works(LINE, "ask 0 1 8 0;ask 0 1 8 0;ask 0 1 24 0;drop 0;jump 2 14;ask 0 1 8 0");
        // 1 at 3 goes to 0; 2 (six slots, at 14) to 3 to 8, where 1 stands; 3 (at 0) to 10
        repackIs(two, 0, 11, 3, 3, 0, 11, 0);
        plannedIs(two, 0, 0, 3, 10, 1);
        plannedIs(two, 0, 1, 1, 0, 1);
        plannedIs(two, 0, 2, 2, 3, 1);
        T.due("for the one at 0", two.waits(0, 1), 1);
        T.due("for the one at 3", two.waits(0, 2), 1);
        FlexGrid ways = works(TRIANGLE, "ask 0 1 40 0;ask 0 2 6 0;drop 0");
        repackIs(ways, 0, 1, 1, 1, 0, 1, 0);
        plannedIs(ways, 0, 0, 1, 0, 3);
        T.due("done", ways.plan(0), 1);
        T.due("a narrower window", ways.demandIs(1, 5), 2);
    }

    private static void staysWhereItIs() {
        FlexGrid g = Tell.gridOf("nodes 6;slots 8;between 0;link 0 1 5;link 0 2 5;link 2 1 5;link 0 3 5;"
            + "link 3 1 5;link 0 4 5;link 4 1 5;link 0 5 9;link 5 1 9");
        Tell.works(g, "ask 0 1 32 0;ask 0 2 32 0;ask 0 3 32 0;ask 0 4 32 0;cut 2;ask 0 1 8 0;mend 2;ask 0 5 8 0");
        T.due("on the fifth way", g.demandIs(4, 7), 384);
        T.due("beside it", g.demandIs(5, 4), 2);
        T.due("no way has a window", g.found(0, 1, 8, 0, 0), -2);
        repackIs(g, 0, 7, 0, 0, 0, 7, 0);
        T.due("it is no move", g.waits(0, 4), -4);
        g.drop(3);
        // now it goes to the way that is free, and the one beside it comes down
        repackIs(g, 0, 7, 2, 2, 0, 7, 0);
    }

    private static void rings() {
        FlexGrid g = works("slots 12;between 0;link 0 1 30", "ask 0 1 16 0;ask 0 1 16 0;jump 1 8;jump 0 4");
        repackIs(g, 3, 11, 2, 0, 2, 11, 2);
        T.due("each for the other", g.waits(3, 0), 1);
        T.due("and so", g.waits(3, 1), 1);
        plannedIs(g, 3, 0, -4);
        unravelIs(g, 3, 1, 2, 0, 11);
        T.due("no move can be done", g.plan(3), 0);
        FlexGrid full = works("slots 8;between 0;link 0 1 30", "ask 0 1 16 0;ask 0 1 16 0");
        repackIs(full, 3, 7, 2, 0, 2, 7, 2);
        unravelIs(full, 3, 0, 0, 2, 7);
    }

    private static void waitsForARing() {
        FlexGrid g = works("slots 12;between 0;link 0 1 30", "ask 0 1 16 3;jump 0 3;ask 0 1 16 3;ask 0 1 8 0");
        repackIs(g, 3, 11, 3, 0, 3, 11, 2);
        T.due("for one of the ring", g.waits(3, 2), 1);
        unravelIs(g, 3, 0, 0, 3, 11);
    }

    private static void thoughtsRefused() {
        FlexGrid s = Spoiled.grid();
        for (int what = 0; what < 6; what++) {
            T.due("spoiled " + what, s.repack(0, what), -2);
        }
        T.due("planned", s.planned(0, 0, 0), -2);
        T.due("waits of a move", s.waits(0, 1), -2);
        T.due("waits of none", s.waits(0, 0), -2);
        T.due("unravel", s.unravel(0, 0), -2);
        T.due("no such what ahead of it", s.repack(0, 6), -1);
        T.due("no such demand ahead of it", s.waits(0, 3), -1);
        FlexGrid g = works(LINE, "ask 0 1 8 0");
        T.due("repack rule 4", g.repack(4, 0), -1);
        T.due("repack rule -1", g.repack(-1, 0), -1);
        T.due("repack what -1", g.repack(0, -1), -1);
        T.due("planned rule 4", g.planned(4, 0, 0), -1);
        T.due("planned i -1", g.planned(0, -1, 0), -1);
        T.due("planned what 3", g.planned(0, 0, 3), -1);
        T.due("planned what -1", g.planned(0, 0, -1), -1);
        T.due("planned of the greatest", g.planned(0, Integer.MAX_VALUE, 0), -4);
        T.due("waits rule 4", g.waits(4, 0), -1);
        T.due("waits of -1", g.waits(0, -1), -1);
        T.due("waits: no move", g.waits(0, 0), -4);
        T.due("unravel rule 4", g.unravel(4, 0), -1);
        T.due("unravel what 4", g.unravel(0, 4), -1);
        T.due("unravel what -1", g.unravel(0, -1), -1);
    }

    private static void trialIs(FlexGrid g, int n, int load, int rule, int... want) {
        for (int what = 0; what < 4; what++) {
            T.due("trial " + n + " " + load + " " + rule + " " + what, g.trial(n, load, rule, what), want[what]);
        }
    }

    private static void trials() {
        FlexGrid g = works("slots 10;link 0 1 30", "ask 0 1 40 0");
        trialIs(g, 1, 64, 0, 0, 0, 9, 1);
        trialIs(g, 30, 20, 1, 19, 227, 9, 3);
        trialIs(g, 200, 40, 2, 159, 3623, 9, 4);
        FlexGrid h = Tell.gridOf(LINE);
        h.seed(777);
        trialIs(h, 60, 24, 0, 29, 405, 19, 6);
        trialIs(h, 60, 24, 2, 29, 409, 19, 6);
        T.due("X stays", h.gridIs(13), 777);
        h.cut(0);
        trialIs(h, 3, 1, 3, 3, 3, -1, 0);
        T.due("n 0", h.trial(0, 1, 0, 0), -2);
        T.due("n 201", h.trial(201, 1, 0, 0), -2);
        T.due("load 0", h.trial(1, 0, 0, 0), -2);
        T.due("load 65", h.trial(1, 65, 0, 0), -2);
        T.due("rule 4", h.trial(1, 1, 4, 0), -2);
        T.due("rule -1", h.trial(1, 1, -1, 0), -2);
        T.due("what 4", h.trial(1, 1, 0, 4), -2);
        T.due("what -1", h.trial(1, 1, 0, -1), -2);
    }

    private static void bestRules() {
        FlexGrid g = Tell.gridOf(LINE);
        T.due("rule 0 blocks", g.trial(100, 16, 0, 0), 43);
        T.due("rule 2 blocks", g.trial(100, 16, 2, 0), 38);
        T.due("the tightest", g.bestRule(100, 16), 2);
        T.due("of like ones the lowest", g.bestRule(1, 1), 0);
        T.due("n 0", g.bestRule(0, 1), -2);
        T.due("n 201", g.bestRule(201, 1), -2);
        T.due("load 0", g.bestRule(1, 0), -2);
        T.due("load 65", g.bestRule(1, 65), -2);
    }

    private static void partsOfRates() {
        FlexGrid g = Tell.gridOf("slots 10;link 0 1 30");
        T.due("one", g.parts(0, 1, 40, 0), 1);
        T.due("too much", g.parts(0, 1, 41, 0), -2);
        Tell.works(g, "ask 0 1 8 0;jump 0 4");
        T.due("two", g.parts(0, 1, 24, 0), 2);
        T.due("two and less", g.parts(0, 1, 13, 3), 2);
        T.due("something left", g.parts(0, 1, 25, 0), -2);
        T.due("with itself", g.parts(0, 0, 1, 0), -1);
        T.due("no such node", g.parts(0, 2, 1, 0), -1);
        T.due("rate 0", g.parts(0, 1, 0, 0), -1);
        T.due("rate 65", g.parts(0, 1, 65, 0), -1);
        T.due("rule 4", g.parts(0, 1, 1, 4), -1);
        T.due("rule -1", g.parts(0, 1, 1, -1), -1);
    }

    private static void twentyPartsAtMost() {
        FlexGrid g = Tell.gridOf("slots 41;between 0;link 0 1 60");
        for (int i = 0; i < 40; i++) {
            g.ask(0, 1, 3, 0);
        }
        for (int i = 0; i < 40; i += 2) {
            g.drop(i);
        }
        T.due("21 holes", g.more(0, 1, 3, 0), 21);
        T.due("twenty", g.parts(0, 1, 60, 0), 20);
        T.due("no 21st", g.parts(0, 1, 61, 0), -2);
    }

    private static void howManyMore() {
        FlexGrid g = Tell.gridOf("slots 10;link 0 1 30");
        T.due("five", g.more(0, 1, 4, 0), 5);
        T.due("five from above", g.more(0, 1, 4, 3), 5);
        T.due("three", g.more(0, 1, 8, 1), 3);
        T.due("none", g.more(0, 1, 44, 2), 0);
        T.due("more than forty", Tell.gridOf("slots 60;between 0;link 0 1 30").more(0, 1, 1, 0), 60);
        T.due("on both ways", Tell.gridOf(TRIANGLE).more(0, 2, 2, 0), 10);
        T.due("with itself", g.more(0, 0, 1, 0), -1);
        T.due("no such node", g.more(2, 0, 1, 0), -1);
        T.due("rate 0", g.more(0, 1, 0, 0), -1);
        T.due("rate 65", g.more(0, 1, 65, 0), -1);
        T.due("rule 4", g.more(0, 1, 1, 4), -1);
        T.due("rule -1", g.more(0, 1, 1, -1), -1);
    }

    private static void cutsInThought() {
        FlexGrid g = works(TRIANGLE, "ask 0 2 6 0;ask 0 1 24 0;ask 1 2 4 0");
        T.due("two dark", g.ifCut(0, 0, 0), 2);
        T.due("one again", g.ifCut(0, 0, 1), 1);
        T.due("top then", g.ifCut(0, 0, 2), 3);
        T.due("from above", g.ifCut(0, 3, 2), 9);
        T.due("none on it", g.ifCut(2, 0, 0), 0);
        T.due("as it is", g.ifCut(2, 0, 2), 8);
        g.cut(0);
        T.due("is cut", g.ifCut(0, 0, 0), -2);
        T.due("those dark ahead of it, too", g.ifCut(1, 0, 1), 1);
        T.due("no such link", g.ifCut(3, 0, 0), -1);
        T.due("below 0", g.ifCut(-1, 0, 0), -1);
        T.due("rule 4", g.ifCut(0, 4, 0), -1);
        T.due("rule -1", g.ifCut(0, -1, 0), -1);
        T.due("what 3", g.ifCut(0, 0, 3), -1);
        T.due("what -1", g.ifCut(0, 0, -1), -1);
    }

    private static void thoughtsChangeNothing() {
        FlexGrid g = works(TRIANGLE, "ask 0 2 6 0;ask 0 1 8 0;ask 1 2 20 0;ask 0 2 9 0;drop 0;cut 2");
        for (int rule = 0; rule < 4; rule++) {
            g.repack(rule, 4);
            g.planned(rule, 0, 0);
            g.waits(rule, 1);
            g.unravel(rule, 3);
            g.trial(50, 30, rule, 2);
            g.parts(0, 1, 30, rule);
            g.more(0, 1, 1, rule);
            g.ifCut(1, rule, 2);
            g.found(0, 1, 9, rule, 0);
        }
        g.bestRule(40, 10);
        T.due("firsts", Tell.check(g, 255, 3, 3, 255), -1);
        T.due("up", g.gridIs(4), 3);
        T.due("dark", g.gridIs(8), 1);
        T.due("used", g.gridIs(11), 7);
        T.due("clock", g.gridIs(12), 0);
        T.due("ways", g.way(0, 2, 0, 2), 3);
    }
}
