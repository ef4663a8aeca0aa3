/** Promises 5 to 17, 34 and 35: what changes the grid's demands, links and clock. */
public final class ChangesTest {
    private static final Tell T = new Tell("ChangesTest");
    private static final String LINE = "slots 20;link 0 1 30";
    private static final String TRIANGLE = "nodes 3;slots 10;link 0 1 30;link 1 2 30;link 0 2 90";

    private ChangesTest() { }

    public static void main(String[] args) {
        asks();
        rules();
        asksRefused();
        fortyAtMost();
        drops();
        slides();
        sweepsByFirst();
        jumps();
        cutsAndMends();
        relights();
        plans();
        lastings();
        theClock();
        seeds();
        keptAndUndone();
        T.end();
    }

    private static void asks() {
        FlexGrid g = Tell.gridOf("slots 10;link 0 1 30");
        T.due("first", g.ask(0, 1, 8, 0), 0);
        T.due("second", g.ask(1, 0, 8, 0), 1);
        T.due("one free between", g.demandIs(1, 4), 3);
        T.due("from above", g.ask(0, 1, 8, 3), 2);
        T.due("highest", g.demandIs(2, 4), 8);
        T.due("blocked", g.ask(0, 1, 8, 0), -2);
        T.due("it comes all the same", g.gridIs(5), 4);
        T.due("as blocked", g.demandIs(3, 3), 1);
        T.due("a narrow one", g.ask(0, 1, 4, 0), 4);
        T.due("fits between", g.demandIs(4, 4), 6);
        T.due("none any more", g.ask(0, 1, 1, 1), -2);
        FlexGrid wide = Tell.gridOf("slots 10;between 4;link 0 1 30");
        wide.ask(0, 1, 4, 0);
        T.due("four between", wide.found(0, 1, 4, 0, 1), 5);
        FlexGrid tight = Tell.gridOf("slots 10;between 0;link 0 1 30");
        tight.ask(0, 1, 4, 0);
        T.due("none between", tight.found(0, 1, 36, 0, 1), 1);
        T.due("not beyond the last", tight.found(0, 1, 37, 0, 1), -2);
    }

    private static void rules() {
        FlexGrid g = Tell.gridOf(TRIANGLE);
        g.ask(0, 1, 8, 0);
        int[][] want = {{0, 3, 2}, {1, 0, 3}, {0, 3, 2}, {0, 8, 2}};
        for (int rule = 0; rule < 4; rule++) {
            for (int what = 0; what < 3; what++) {
                T.due("rule " + rule + " what " + what, g.found(0, 2, 6, rule, what), want[rule][what]);
            }
        }
        T.due("asked by rule 1", g.ask(0, 2, 6, 1), 1);
        T.due("on the other way", g.demandIs(1, 7), 4);
        FlexGrid rows = Tell.gridOf("slots 20;between 0;link 0 1 30");
        Tell.works(rows, "ask 0 1 16 0;ask 0 1 8 0;ask 0 1 8 0;ask 0 1 8 0;drop 0;drop 2");
        T.due("the tightest row", rows.found(0, 1, 8, 2, 1), 6);
        T.due("the tightest for one", rows.found(0, 1, 4, 2, 1), 6);
        T.due("the next tightest", rows.found(0, 1, 12, 2, 1), 0);
        T.due("the widest", rows.found(0, 1, 20, 2, 1), 10);
        T.due("the lowest", rows.found(0, 1, 8, 0, 1), 0);
        FlexGrid like = Tell.gridOf("slots 20;between 0;link 0 1 30");
        Tell.works(like, "ask 0 1 8 0;ask 0 1 8 0;ask 0 1 8 0;ask 0 1 8 0;drop 0;drop 2");
        T.due("of like rows the lowest", like.found(0, 1, 4, 2, 1), 0);
    }

    private static void asksRefused() {
        FlexGrid g = Tell.gridOf(LINE);
        T.due("a node with itself", g.ask(0, 0, 1, 0), -1);
        T.due("no such node", g.ask(0, 2, 1, 0), -1);
        T.due("no such node either", g.ask(-1, 1, 1, 0), -1);
        T.due("no rate", g.ask(0, 1, 0, 0), -1);
        T.due("rate 65", g.ask(0, 1, 65, 0), -1);
        T.due("rule -1", g.ask(0, 1, 1, -1), -1);
        T.due("rule 4", g.ask(0, 1, 1, 4), -1);
        T.due("the greatest", g.ask(Integer.MAX_VALUE, Integer.MIN_VALUE, 1, 0), -1);
        T.due("none came", g.gridIs(5), 0);
        T.due("rate 64", g.ask(0, 1, 64, 0), 0);
        T.due("sixteen slots", g.demandIs(0, 5), 16);
    }

    private static void fortyAtMost() {
        FlexGrid g = Tell.gridOf("slots 60;between 0;link 0 1 30");
        for (int i = 0; i < 40; i++) {
            T.due("ask " + i, g.ask(0, 1, 4, 0), i);
        }
        T.due("a 41st", g.ask(0, 1, 4, 0), -3);
        T.due("no such one ahead of it", g.ask(0, 0, 4, 0), -1);
        g.drop(7);
        T.due("though one is gone", g.ask(0, 1, 4, 0), -3);
        T.due("forty", g.gridIs(5), 40);
    }

    private static void drops() {
        FlexGrid g = Tell.gridOf(LINE);
        g.ask(0, 1, 64, 0);
        g.ask(0, 1, 64, 0);
        T.due("lit", g.drop(0), true);
        T.due("gone already", g.drop(0), false);
        T.due("its slots are free", g.gridIs(11), 0);
        T.due("blocked", g.drop(1), true);
        T.due("gone", g.demandIs(1, 3), 3);
        g.ask(0, 1, 4, 0);
        g.cut(0);
        T.due("dark", g.drop(2), true);
        T.due("no such one", g.drop(3), false);
        T.due("below 0", g.drop(-1), false);
    }

    private static void slides() {
        FlexGrid g = Tell.gridOf(LINE);
        Tell.works(g, "ask 0 1 8 0;ask 0 1 8 0;ask 0 1 8 0;drop 0");
        T.due("never over another one", g.slide(2), 0);
        T.due("to the bottom", g.slide(1), 3);
        T.due("up to it", g.slide(2), 3);
        T.due("no further", g.slide(2), 0);
        T.due("gone", g.slide(0), -1);
        T.due("no such one", g.slide(3), -1);
        T.due("below 0", g.slide(-1), -1);
        T.due("firsts", Tell.check(g, 255, 0, 3), -1);
        FlexGrid t = Tell.gridOf(TRIANGLE);
        Tell.works(t, "ask 0 1 8 0;ask 0 2 6 0;ask 1 2 9 0;drop 0");
        T.due("of three slots", t.demandIs(2, 5), 3);
        T.due("above it", t.demandIs(2, 4), 6);
        T.due("on all its links", t.slide(1), 3);
        T.due("the other one then", t.slide(2), 3);
    }

    private static void sweepsByFirst() {
        FlexGrid g = Tell.gridOf(LINE);
        Tell.works(g, "ask 0 1 8 0;ask 0 1 8 0;ask 0 1 8 0;jump 0 12");
        g.keep();
        T.due("three move", g.sweep(), 3);
        T.due("by first, not by number", Tell.check(g, 6, 0, 3), -1);
        T.due("none moves", g.sweep(), 0);
        g.undo();
        T.due("one sweep that moves", g.sweeps(), 1);
        T.due("and none", g.sweeps(), 0);
        T.due("the same", Tell.check(g, 6, 0, 3), -1);
    }

    private static void jumps() {
        FlexGrid g = Tell.gridOf(LINE);
        g.ask(0, 1, 8, 0);
        T.due("shares a slot", g.jump(0, 1), -1001);
        T.due("where it is", g.jump(0, 0), -1001);
        T.due("side by side", g.jump(0, 2), -2);
        T.due("shares its lowest", g.jump(0, 1), -1001);
        T.due("shares its highest", g.jump(0, 3), -1001);
        T.due("to the last", g.jump(0, 18), -16);
        T.due("beyond", g.jump(0, 19), -1000);
        T.due("no such slot", g.jump(0, 20), -1000);
        T.due("below 0", g.jump(0, -1), -1000);
        T.due("the greatest", g.jump(0, Integer.MAX_VALUE), -1000);
        T.due("no such one", g.jump(1, 0), -1000);
        g.ask(0, 1, 8, 0);
        T.due("too near", g.jump(1, 16), -1001);
        T.due("one between", g.jump(1, 15), -15);
        T.due("back, over nothing", g.jump(1, 0), 15);
        T.due("firsts", Tell.check(g, 18, 0), -1);
        g.ask(0, 1, 64, 0);
        T.due("not lit", g.jump(2, 5), -1000);
        Tell.works(g, "ask 0 1 8 0");
        T.due("over another one", g.jump(1, 6), -6);
    }

    private static void cutsAndMends() {
        FlexGrid g = Tell.gridOf(TRIANGLE);
        Tell.works(g, "ask 0 2 6 0;ask 0 1 8 0;ask 1 2 8 0;ask 0 1 64 0");
        T.due("two dark", g.cut(0), 2);
        T.due("is cut", g.cut(0), -2);
        T.due("no such link", g.cut(3), -1);
        T.due("below 0", g.cut(-1), -1);
        int[] states = {2, 2, 0, 1};
        for (int i = 0; i < 4; i++) {
            T.due("state of " + i, g.demandIs(i, 3), states[i]);
        }
        T.due("up", g.gridIs(4), 6);
        T.due("its slots are free", g.linkIs(0, 4), 0);
        T.due("on the other link, too", g.linkIs(1, 4), 2);
        T.due("ways", g.way(0, 1, 0, 2), 6);
        T.due("mended", g.mend(0), true);
        T.due("is up", g.mend(0), false);
        T.due("no such one", g.mend(3), false);
        T.due("below zero", g.mend(-1), false);
        T.due("ways again", g.way(0, 1, 0, 2), 1);
        T.due("dark still", g.demandIs(0, 3), 2);
        T.due("none on it", g.cut(0), 0);
    }

    private static void relights() {
        FlexGrid g = Tell.gridOf(TRIANGLE);
        Tell.works(g, "ask 0 2 6 0;ask 0 1 24 0;cut 0");
        T.due("one finds a window", g.relight(0), 1);
        T.due("elsewhere", g.demandIs(0, 7), 4);
        T.due("wider", g.demandIs(0, 5), 3);
        T.due("the other stays dark", g.demandIs(1, 3), 2);
        T.due("none", g.relight(1), 0);
        g.mend(0);
        T.due("by rule 3", g.relight(3), 1);
        T.due("from above", g.demandIs(1, 4), 4);
        T.due("rule 4", g.relight(4), -1);
        T.due("rule -1", g.relight(-1), -1);
    }

    private static void plans() {
        FlexGrid g = Tell.gridOf(LINE);
        Tell.works(g, "ask 0 1 8 0;ask 0 1 8 0;ask 0 1 8 0;drop 0");
        g.lasts(1, 50);
        T.due("two moves", g.plan(0), 2);
        T.due("where they go", Tell.check(g, 255, 0, 3), -1);
        T.due("none", g.plan(0), 0);
        T.due("the end goes on", g.demandIs(1, 11), 50);
        T.due("upwards", g.plan(3), 2);
        T.due("from above", Tell.check(g, 255, 18, 15), -1);
        T.due("rule 4", g.plan(4), -1);
        T.due("rule -1", g.plan(-1), -1);
        T.due("forty moves", fortyUp().plan(0), 40);
        FlexGrid spoiled = Spoiled.grid();
        T.due("spoiled", spoiled.plan(0), -2);
        T.due("nothing moved", Tell.check(spoiled, 255, 0, 0), -1);
        T.due("nor by links", spoiled.demandIs(1, 7), 4);
    }

    /** Forty demands, all of them one slot above where they could be. */
    private static FlexGrid fortyUp() {
        FlexGrid g = Tell.gridOf("slots 60;between 0;link 0 1 30");
        for (int i = 0; i < 40; i++) {
            g.ask(0, 1, 4, 0);
        }
        for (int i = 39; i >= 0; i--) {
            g.jump(i, i + 1);
        }
        return g;
    }

    private static void lastings() {
        FlexGrid g = Tell.gridOf(LINE);
        Tell.works(g, "ask 0 1 8 0;ask 0 1 64 0;ask 0 1 64 0;ask 0 1 4 0;drop 3");
        T.due("an end", g.lasts(0, 5), 5);
        g.ticks(2);
        T.due("in place of it", g.lasts(0, 9999), 10001);
        T.due("it is told", g.demandIs(0, 11), 10001);
        T.due("blocked", g.lasts(2, 5), -1);
        T.due("gone", g.lasts(3, 5), -1);
        T.due("no such one", g.lasts(4, 5), -1);
        T.due("below 0", g.lasts(-1, 5), -1);
        T.due("n 0", g.lasts(0, 0), -1);
        T.due("n 10000", g.lasts(0, 10000), -1);
        g.cut(0);
        T.due("dark", g.lasts(0, 3), 5);
        T.due("dark, told", g.demandIs(0, 11), 5);
    }

    private static void theClock() {
        FlexGrid g = Tell.gridOf(LINE);
        Tell.works(g, "ask 0 1 8 0;ask 0 1 8 0;ask 0 1 8 0;lasts 0 3;lasts 1 4;lasts 2 5");
        T.due("none yet", g.ticks(2), 0);
        T.due("the first", g.ticks(1), 1);
        T.due("it is gone", g.demandIs(0, 3), 3);
        T.due("no end any more", g.demandIs(0, 11), -2);
        g.cut(0);
        T.due("dark ones, too", g.ticks(1), 1);
        g.mend(0);
        g.relight(0);
        T.due("lit again, it has its end", g.demandIs(2, 11), 5);
        T.due("and goes", g.ticks(1000), 1);
        T.due("the clock", g.gridIs(12), 1004);
        T.due("its slots are free", g.gridIs(11), 0);
        T.due("n 0", g.ticks(0), -1);
        T.due("n 1001", g.ticks(1001), -1);
        for (int i = 0; i < 98; i++) {
            g.ticks(1000);
        }
        T.due("late", g.gridIs(12), 99004);
        T.due("too late", g.ticks(996), -3);
        T.due("the clock stays", g.gridIs(12), 99004);
        T.due("up to the last", g.ticks(995), 0);
        T.due("no further", g.ticks(1), -3);
        T.due("no such n ahead of it", g.ticks(1001), -1);
        g.ask(0, 1, 4, 0);
        T.due("an end beyond", g.lasts(3, 1), 100000);
    }

    private static void seeds() {
        FlexGrid g = new FlexGrid();
        T.due("0", g.seed(0), true);
        T.due("X", g.gridIs(13), 0);
        T.due("65535", g.seed(65535), true);
        T.due("65536", g.seed(65536), false);
        T.due("below 0", g.seed(-1), false);
        T.due("X stays", g.gridIs(13), 65535);
    }

    private static void keptAndUndone() {
        FlexGrid g = Tell.gridOf(TRIANGLE);
        T.due("nothing was kept", g.undo(), false);
        Tell.works(g, "ask 0 1 8 0;ask 0 1 8 0;ask 0 1 64 0;lasts 0 9;cut 2;ticks 2");
        g.seed(5);
        T.due("three demands", g.keep(), 3);
        Tell.works(g, "drop 0;slide 1;mend 2;ticks 7");
        g.seed(6);
        g.feed(1, 2, 3, 4, 5);
        T.due("undone", g.undo(), true);
        T.due("firsts", g.demandIs(1, 4), 3);
        T.due("lit", g.demandIs(0, 3), 0);
        T.due("end", g.demandIs(0, 11), 9);
        T.due("up", g.gridIs(4), 3);
        T.due("clock", g.gridIs(12), 2);
        T.due("X", g.gridIs(13), 5);
        T.due("slots", g.gridIs(11), 4);
        T.due("but the tape", g.count(1), 20);
        g.check(0);
        T.due("another grid", Tell.grid(g, "slots 9;link 0 1 7"), 2);
        T.due("its ways", g.way(0, 1, 0, 0), 7);
        T.due("undone once more", g.undo(), true);
        T.due("nodes", g.gridIs(0), 3);
        T.due("clauses", g.count(2), 5);
        T.due("ways", g.way(0, 1, 0, 0), 30);
        T.due("demands", g.count(0), 3);
        g.drop(0);
        T.due("kept anew", g.keep(), 3);
        g.drop(1);
        g.undo();
        T.due("as kept last", g.demandIs(0, 3), 3);
        T.due("and so", g.demandIs(1, 3), 0);
    }
}
