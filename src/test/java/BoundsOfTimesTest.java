/** The bounds of the tape, THE CLOCK, ENDS, TRIALS, PARTS, MORE, ifCut, KEPT and CHECK. */
public final class BoundsOfTimesTest {
    private static final Tell T = new Tell("BoundsOfTimesTest");
    private static final String LINE = "slots 20;link 0 1 30";
    private static final String TRIANGLE = "nodes 3;slots 10;link 0 1 30;link 1 2 30;link 0 2 90";
    /** Room for two demands of one slot, by every rule. */
    private static final String TWO_AT_ONCE = "slots 8;between 4;link 0 1 5";

    private static int x;

    private BoundsOfTimesTest() { }

    public static void main(String[] args) {
        aNewObject();
        theTape();
        bytesOfTheTape();
        ends();
        endsCome();
        endsGoOn();
        theLastTime();
        endsBeyondTheClock();
        seeds();
        trialTimes();
        trialsLitAtLast();
        trialsBlocked();
        trialNodes();
        trialRates();
        trialTops();
        trialsInThought();
        bestRules();
        partsOfRates();
        twentyParts();
        howManyMore();
        moreThanForty();
        cutsInThought();
        kept();
        nothingKept();
        keptOfForty();
        checks();
        checksOfForty();
        counts();
        ownMemory();
        T.end();
    }

    private static FlexGrid fortyLit() {
        FlexGrid g = Tell.gridOf("slots 60;between 0;link 0 1 30");
        for (int i = 0; i < 40; i++) {
            g.ask(0, 1, 4, 0);
        }
        return g;
    }

    private static void aNewObject() {
        T.says("`FlexGrid()`: Two NODES without LINKS, all as at first.");
        FlexGrid g = new FlexGrid();
        int[] want = {2, 40, 1, 0, 0, 0, 0, 0, 0, 0, -1, 0, 0, 1};
        for (int what = 0; what < want.length; what++) {
            T.due("gridIs " + what, g.gridIs(what), want[what]);
        }
        for (int what = 0; what < 3; what++) {
            T.due("count " + what, g.count(what), 0);
        }
        T.due("keep", g.keep(), 0);
    }

    private static void theTape() {
        T.says("how many it has; NONE if that would be more than 240.");
        FlexGrid g = new FlexGrid();
        T.due("empty", g.count(1), 0);
        for (int i = 1; i <= 12; i++) {
            T.due("feed " + i, g.feed(i, i, i, i, i), 20 * i);
        }
        for (int i = 0; i < 3; i++) {
            T.due("a 13th", g.feed(-1, -1, -1, -1, -1), -1);
            T.due("240", g.count(1), 240);
        }
        T.due("right up to 40", g.check(40), 0);
        T.due("empty again", g.count(1), 0);
        T.due("from the beginning", g.feed(0, 0, 0, 0, 0), 20);
        FlexGrid full = new FlexGrid();
        Tell.feed(full, "slots 00009;".repeat(20));
        full.feed(-1, -1, -1, -1, -1);
        T.due("the tape stays as it was", full.grid(191), 16);
    }

    private static void bytesOfTheTape() {
        T.says("Twenty bytes come behind the tape, the highest of each int first:");
        FlexGrid g = fortyLit();
        T.due("0 to 19", g.feed(0x00010203, 0x04050607, 0x08090A0B, 0x0C0D0E0F, 0x10111213), 20);
        T.due("20 to 39", g.feed(0x14151617, 0x18191A1B, 0x1C1D1E1F, 0x20212223, 0x24252627), 40);
        T.due("in this order", g.check(40), -1);
        g.drop(0);
        g.drop(1);
        g.feed(0xFFFF0203, 0xFF050607, 0, 0, 0);
        T.due("bytes of 255", g.check(5), 4);
        g.drop(2);
        g.feed(0xFFFFFF83, 0, 0, 0, 0);
        T.due("byte 131 is not 3", g.check(4), 3);
    }

    private static void ends() {
        T.says("A LIT or DARK DEMAND has an END so many TIMES from now (1 to 9999), in place of another one: the END;");
        FlexGrid g = Tell.gridWith("nodes 3;slots 20;between 3;link 0 1 30;link 1 2 30",
            "ask 0 1 8 0;ask 0 1 64 0;ask 1 2 8 0;ask 0 1 4 0;drop 3;cut 1");
        int[] none = {0, -1, 10000, Integer.MAX_VALUE, Integer.MIN_VALUE};
        for (int n : none) {
            T.due("n " + n, g.lasts(0, n), -1);
            T.due("no end", g.demandIs(0, 11), -2);
        }
        T.due("1", g.lasts(0, 1), 1);
        T.due("9999", g.lasts(0, 9999), 9999);
        T.due("in place of it", g.demandIs(0, 11), 9999);
        T.due("refused", g.lasts(0, 10000), -1);
        T.due("it stays", g.demandIs(0, 11), 9999);
        T.due("blocked", g.lasts(1, 5), -1);
        T.due("dark", g.lasts(2, 5), 5);
        T.due("gone", g.lasts(3, 5), -1);
        T.due("no such one", g.lasts(4, 5), -1);
        T.due("none below 0", g.lasts(-1, 5), -1);
        T.due("none for the blocked", g.demandIs(1, 11), -2);
        T.due("none for the gone", g.demandIs(3, 11), -2);
        g.ticks(3);
        T.due("from now", g.lasts(2, 5), 8);
        T.due("of an empty grid", new FlexGrid().lasts(0, 1), -1);
    }

    private static void endsCome() {
        T.says("n TIMES (1 to 1000) go by on THE CLOCK: how many DEMANDS are GONE by it;");
        FlexGrid g = Tell.gridWith(LINE, "ask 0 1 8 0;ask 0 1 8 0;ask 0 1 8 0;lasts 0 5;lasts 1 5;lasts 2 6");
        T.due("one time ahead", g.ticks(4), 0);
        T.due("all lit", g.gridIs(6), 3);
        T.due("just then", g.ticks(1), 2);
        T.due("the third is lit", g.demandIs(2, 3), 0);
        T.due("its end", g.demandIs(2, 11), 6);
        T.due("the slots are free", g.found(0, 1, 8, 0, 1), 0);
        T.due("far beyond", g.ticks(1000), 1);
        T.due("all gone", g.gridIs(9), 3);
        T.due("none is gone twice", g.ticks(1000), 0);
        int[] none = {0, -1, 1001, Integer.MAX_VALUE, Integer.MIN_VALUE};
        for (int n : none) {
            T.due("n " + n, g.ticks(n), -1);
            T.due("the clock stays", g.gridIs(12), 2005);
        }
        FlexGrid many = fortyLit();
        for (int i = 0; i < 40; i++) {
            many.lasts(i, 1000);
        }
        T.due("ahead of it", many.ticks(999), 0);
        T.due("forty at once", many.ticks(1), 40);
        FlexGrid past = fortyLit();
        for (int i = 0; i < 40; i++) {
            past.lasts(i, i + 1);
        }
        T.due("one behind the other", past.ticks(39), 39);
        T.due("the last", past.ticks(1), 1);
        T.due("an empty grid", new FlexGrid().ticks(1), 0);
    }

    private static void endsGoOn() {
        T.says(
            "it goes on though it gets DARK and is LIT again): when THE CLOCK comes to it, it is GONE, LIT or DARK.");
        FlexGrid g = Tell.gridWith(TRIANGLE, "ask 0 1 8 0;ask 1 2 8 0;lasts 0 3;lasts 1 3;cut 0");
        T.due("dark, an end", g.demandIs(0, 11), 3);
        g.ticks(2);
        T.due("one dark, one lit: both", g.ticks(1), 2);
        T.due("gone", g.demandIs(0, 3), 3);
        T.due("no end", g.demandIs(0, 11), -2);
        g.mend(0);
        T.due("not lit again", g.relight(0), 0);
        FlexGrid again = Tell.gridWith(LINE, "ask 0 1 8 0;lasts 0 3;cut 0;ticks 2;mend 0;relight 0");
        T.due("lit again, an end", again.demandIs(0, 11), 3);
        T.due("lit", again.demandIs(0, 3), 0);
        T.due("it comes", again.ticks(1), 1);
        FlexGrid moved = Tell.gridWith(LINE, "ask 0 1 8 3;lasts 0 3;slide 0;jump 0 9;plan 0;sweep");
        T.due("moves leave it", moved.demandIs(0, 11), 3);
        FlexGrid dropped = Tell.gridWith(LINE, "ask 0 1 8 3;lasts 0 3;drop 0");
        T.due("dropped: no end", dropped.demandIs(0, 11), -2);
        T.due("dropped: not once more", dropped.ticks(3), 0);
    }

    private static FlexGrid late(int clock) {
        FlexGrid g = Tell.gridOf(LINE);
        for (int i = 0; i < clock / 1000; i++) {
            g.ticks(1000);
        }
        if (clock % 1000 > 0) {
            g.ticks(clock % 1000);
        }
        return g;
    }

    private static void theLastTime() {
        T.says("THE CLOCK (0 at first, 99999 at most);");
        FlexGrid g = late(99000);
        T.due("1000 more", g.ticks(1000), -3);
        T.due("the clock stays", g.gridIs(12), 99000);
        g.ask(0, 1, 8, 0);
        g.lasts(0, 1);
        T.due("refused: none is gone", g.ticks(1000), -3);
        T.due("lit", g.demandIs(0, 3), 0);
        T.due("999 more", g.ticks(999), 1);
        T.due("the last", g.gridIs(12), 99999);
        T.due("one more", g.ticks(1), -3);
        T.due("NONE comes first", g.ticks(1001), -1);
        T.due("NONE comes first, too", g.ticks(0), -1);
        T.due("the last still", g.gridIs(12), 99999);
        T.due("another grid: 0 again", Tell.grid(g, LINE), 2);
        T.due("0", g.gridIs(12), 0);
        T.due("it goes on", g.ticks(1000), 0);
    }

    private static void endsBeyondTheClock() {
        T.says("(a time on THE CLOCK;");
        FlexGrid g = late(99998);
        g.ask(0, 1, 8, 0);
        g.ask(0, 1, 8, 0);
        T.due("the last time", g.lasts(0, 1), 99999);
        T.due("beyond", g.lasts(1, 9999), 109997);
        T.due("the first ends", g.ticks(1), 1);
        T.due("the other stays", g.demandIs(1, 3), 0);
        T.due("its end", g.demandIs(1, 11), 109997);
    }

    private static void seeds() {
        T.says("THE SEED (0 to 65535; X, too): true; false: no such number.");
        FlexGrid g = new FlexGrid();
        T.due("1 at first", g.gridIs(13), 1);
        T.due("0", g.seed(0), true);
        T.due("X 0", g.gridIs(13), 0);
        T.due("65535", g.seed(65535), true);
        int[] none = {-1, 65536, Integer.MAX_VALUE, Integer.MIN_VALUE};
        for (int n : none) {
            T.due("seed " + n, g.seed(n), false);
            T.due("X stays", g.gridIs(13), 65535);
        }
        Tell.grid(g, LINE);
        T.due("X stays with a new grid", g.gridIs(13), 65535);
    }

    private static int draw(int modulo) {
        x = (int) ((25173L * x + 13849) % 65536);
        return x % modulo;
    }

    private static void trialTimes() {
        T.says("TRIAL of n TIMES (1 to 200) by a RULE with a LOAD (1 to 64), what 0 BLOCKED, 1 their RATES together,");
        FlexGrid g = Tell.gridOf(LINE);
        T.due("n 0", g.trial(0, 1, 0, 0), -2);
        T.due("n 1", g.trial(1, 1, 0, 3), 1);
        T.due("n 200", g.trial(200, 1, 0, 0) >= 0, true);
        T.due("n 201", g.trial(201, 1, 0, 0), -2);
        T.due("load 0", g.trial(1, 0, 0, 0), -2);
        T.due("load 64", g.trial(1, 64, 0, 0), 0);
        T.due("load 65", g.trial(1, 65, 0, 0), -2);
        T.due("rule -1", g.trial(1, 1, -1, 0), -2);
        T.due("rule 3", g.trial(1, 1, 3, 0), 0);
        T.due("rule 4", g.trial(1, 1, 4, 0), -2);
        T.due("what -1", g.trial(1, 1, 0, -1), -2);
        T.due("what 4", g.trial(1, 1, 0, 4), -2);
        FlexGrid none = new FlexGrid();
        T.due("all blocked", none.trial(200, 1, 0, 0), 200);
        T.due("of rate 1 each", none.trial(200, 1, 0, 1), 200);
        T.due("no top", none.trial(200, 1, 0, 2), -1);
        T.due("none lit", none.trial(200, 1, 0, 3), 0);
    }

    /** Of demands that are never blocked: those whose END is not come by the last TIME. */
    private static void trialsLitAtLast() {
        T.says("each TIME (0, 1, ..) first those are GONE whose END it is; then an ASK:");
        int[] seeds = {0, 1, 777, 65535};
        for (int seed : seeds) {
            for (int n = 1; n <= 60; n++) {
                FlexGrid g = Tell.gridOf("slots 60;between 0;link 0 1 5");
                g.seed(seed);
                x = seed;
                int lit = 0;
                for (int time = 0; time < n; time++) {
                    draw(2);
                    draw(1);
                    draw(1);
                    int end = time + 1 + draw(20);
                    lit += end >= n ? 1 : 0;
                }
                T.due("lit at last, seed " + seed + " n " + n, g.trial(n, 1, 0, 3), lit);
                T.due("none blocked, seed " + seed + " n " + n, g.trial(n, 1, 0, 0), 0);
            }
        }
    }

    /** With room for two: who is asked while two last is blocked; one that ends just then makes room. */
    private static void trialsBlocked() {
        T.says("END the TIME, 1 and X modulo 20");
        for (int rule = 0; rule < 4; rule++) {
            FlexGrid g = Tell.gridOf(TWO_AT_ONCE);
            for (int n = 1; n <= 200; n += n < 60 ? 1 : 35) {
                x = 1;
                int[] end = {0, 0};
                int blocked = 0;
                for (int time = 0; time < n; time++) {
                    draw(2);
                    draw(1);
                    draw(1);
                    int until = time + 1 + draw(20);
                    int free = end[0] <= time ? 0 : 1;
                    if (end[free] > time) {
                        blocked++;
                    } else {
                        end[free] = until;
                    }
                }
                T.due("blocked by rule " + rule + " of " + n, g.trial(n, 1, rule, 0), blocked);
                T.due("their rates", g.trial(n, 1, rule, 1), blocked);
            }
        }
    }

    private static void trialNodes() {
        T.says("NODE P X modulo NODES, Q (P and 1 and X modulo (NODES less 1)) modulo NODES,");
        for (int nodes = 2; nodes <= 8; nodes++) {
            FlexGrid g = Tell.gridOf("nodes " + nodes + ";slots 60;between 0;link 0 1 5");
            x = 1;
            int blocked = 0;
            for (int time = 0; time < 200; time++) {
                int p = draw(nodes);
                int q = (p + 1 + draw(nodes - 1)) % nodes;
                draw(1);
                draw(20);
                blocked += p + q == 1 ? 0 : 1;
            }
            T.due("of " + nodes + " nodes", g.trial(200, 1, 0, 0), blocked);
        }
    }

    private static void trialRates() {
        T.says("RATE 1 and X modulo LOAD,");
        int[] loads = {1, 2, 63, 64};
        for (int load : loads) {
            FlexGrid g = new FlexGrid();
            x = 1;
            int rates = 0;
            for (int time = 0; time < 200; time++) {
                draw(2);
                draw(1);
                rates += 1 + draw(load);
                draw(20);
            }
            T.due("rates of load " + load, g.trial(200, load, 0, 1), rates);
            T.due("all blocked of load " + load, g.trial(200, load, 0, 0), 200);
        }
    }

    private static void trialTops() {
        T.says("2 the highest TOP that there was (NONE: none), 3 DEMANDS LIT at last;");
        FlexGrid g = Tell.gridOf(TWO_AT_ONCE);
        T.due("one at the bottom", g.trial(1, 1, 0, 2), 0);
        T.due("one at the top", g.trial(1, 1, 3, 2), 7);
        T.due("two", g.trial(30, 1, 0, 2), 5);
        T.due("two from above", g.trial(30, 1, 3, 2), 7);
        FlexGrid far = Tell.gridOf("reach 4 4 4 4;link 0 1 5");
        T.due("none can be lit", far.trial(30, 1, 0, 2), -1);
        FlexGrid wide = Tell.gridOf("slots 60;between 0;reach 9 0 0 0;link 0 1 9");
        x = 1;
        draw(2);
        draw(1);
        int rate = 1 + draw(64);
        T.due("as high as wide", wide.trial(1, 64, 0, 2), rate <= 60 ? rate - 1 : -1);
    }

    private static void trialsInThought() {
        T.says("TRIAL (in thought, on the GRID as it is, without its DEMANDS)");
        FlexGrid g = Tell.gridWith(TWO_AT_ONCE, "ask 0 1 1 0;ask 0 1 1 0;lasts 0 1");
        FlexGrid empty = Tell.gridOf(TWO_AT_ONCE);
        for (int what = 0; what < 4; what++) {
            T.due("as without them, what " + what, g.trial(40, 1, 0, what), empty.trial(40, 1, 0, what));
            T.due("the same once more", g.trial(40, 1, 0, what), empty.trial(40, 1, 0, what));
        }
        T.due("X stays", g.gridIs(13), 1);
        T.due("the demands stay", Tell.check(g, 0, 5), -1);
        T.due("the clock stays", g.gridIs(12), 0);
        T.due("the end stays", g.demandIs(0, 11), 1);
        FlexGrid forty = fortyLit();
        T.due("though there are forty", forty.trial(1, 1, 0, 0), 0);
        T.due("more than forty asked", forty.trial(200, 1, 0, 0), 0);
        g.cut(0);
        T.due("the cut stays cut", g.trial(5, 1, 0, 0), 5);
    }

    private static void bestRules() {
        T.says("The RULE by which a TRIAL of n TIMES with a LOAD has the fewest BLOCKED (of like ones the lowest);");
        FlexGrid g = Tell.gridOf(LINE);
        int[] none = {0, -1, 201, Integer.MAX_VALUE, Integer.MIN_VALUE};
        for (int n : none) {
            T.due("n " + n, g.bestRule(n, 1), -2);
        }
        int[] noLoad = {0, -1, 65, Integer.MAX_VALUE, Integer.MIN_VALUE};
        for (int load : noLoad) {
            T.due("load " + load, g.bestRule(1, load), -2);
        }
        T.due("n 1", g.bestRule(1, 1), 0);
        T.due("n 1, load 64", g.bestRule(1, 64), 0);
        T.due("all blocked alike", new FlexGrid().bestRule(200, 64), 0);
        for (int load = 1; load <= 64; load += 9) {
            int best = 0;
            for (int rule = 1; rule < 4; rule++) {
                best = g.trial(200, load, rule, 0) < g.trial(200, load, best, 0) ? rule : best;
            }
            T.due("load " + load, g.bestRule(200, load), best);
        }
    }

    private static void partsOfRates() {
        T.says("a DEMAND of the greatest RATE that is no more than what is left and finds a WINDOW by a RULE");
        FlexGrid g = Tell.gridWith("slots 8;between 0;link 0 1 30", "ask 0 1 4 0;jump 0 3;ask 0 1 4 3");
        // three free below, three above
        int[][] want = {{1, 1}, {12, 1}, {13, 2}, {24, 2}, {25, -2}, {64, -2}};
        for (int[] w : want) {
            for (int rule = 0; rule < 4; rule++) {
                T.due("rate " + w[0] + " rule " + rule, g.parts(0, 1, w[0], rule), w[1]);
            }
        }
        g.ask(0, 1, 12, 0);
        T.due("one row is left", g.parts(0, 1, 12, 0), 1);
        T.due("and no more", g.parts(0, 1, 13, 0), -2);
        g.ask(0, 1, 12, 0);
        T.due("full", g.parts(0, 1, 1, 0), -2);
        T.due("no way", new FlexGrid().parts(0, 1, 1, 0), -2);
        T.due("in thought: none came", g.gridIs(5), 4);
        FlexGrid ways = Tell.gridOf(TRIANGLE);
        T.due("both ways: 30 and 20", ways.parts(0, 2, 50, 0), 2);
        T.due("one more", ways.parts(0, 2, 51, 0), -2);
        FlexGrid all = Tell.gridOf("slots 16;link 0 1 30");
        T.due("64 at once", all.parts(0, 1, 64, 0), 1);
    }

    private static void twentyParts() {
        T.says("till nothing is left; 20 at most.");
        FlexGrid g = Tell.gridOf("slots 41;between 0;link 0 1 60");
        for (int i = 0; i < 40; i++) {
            g.ask(0, 1, 3, 0);
        }
        for (int i = 0; i < 40; i += 2) {
            g.drop(i);
        }
        // twenty-one rows of one slot, three in each
        int[][] want = {{3, 1}, {4, 2}, {57, 19}, {58, 20}, {60, 20}, {61, -2}, {63, -2}, {64, -2}};
        for (int[] w : want) {
            T.due("rate " + w[0], g.parts(0, 1, w[0], 0), w[1]);
        }
        T.due("though there is room for it", g.more(0, 1, 3, 0), 21);
    }

    private static void howManyMore() {
        T.says("MORE: how many DEMANDS between two NODES of a RATE could be LIT by a RULE one behind the other");
        FlexGrid g = Tell.gridOf("slots 10;link 0 1 30");
        int[][] want = {{4, 5}, {5, 3}, {8, 3}, {9, 2}, {16, 2}, {17, 1}, {20, 1}, {40, 1}, {41, 0}, {64, 0}};
        for (int[] w : want) {
            T.due("rate " + w[0], g.more(0, 1, w[0], 0), w[1]);
        }
        T.due("no way", new FlexGrid().more(0, 1, 1, 0), 0);
        T.due("in thought: none came", g.gridIs(5), 0);
        FlexGrid full = Tell.gridWith("slots 10;link 0 1 30", "ask 0 1 40 0");
        T.due("full", full.more(0, 1, 1, 0), 0);
        full.cut(0);
        T.due("cut", full.more(0, 1, 1, 0), 0);
    }

    private static void moreThanForty() {
        T.says("(in thought; there may be more than 40 then).");
        FlexGrid g = Tell.gridOf("slots 60;between 0;link 0 1 30");
        T.due("sixty", g.more(0, 1, 1, 0), 60);
        T.due("sixty from above", g.more(0, 1, 1, 3), 60);
        FlexGrid forty = fortyLit();
        T.due("though there are forty", forty.more(0, 1, 1, 2), 20);
        FlexGrid fan = Tell.gridOf("nodes 7;slots 60;between 0;link 0 2 5;link 1 2 5;link 0 3 5;link 1 3 5;link 0 4 5;"
            + "link 1 4 5;link 0 5 5;link 1 5 5;link 0 6 5;link 1 6 5");
        T.due("on four ways", fan.more(0, 1, 1, 1), 240);
    }

    private static void cutsInThought() {
        T.says(
            "If a LINK that is up were CUT and all RELIT by a RULE, what 0 how many would become DARK, 1 LIT again,");
        FlexGrid none = Tell.gridOf(LINE);
        T.due("no demand: dark", none.ifCut(0, 0, 0), 0);
        T.due("no demand: again", none.ifCut(0, 0, 1), 0);
        T.due("no demand: top", none.ifCut(0, 0, 2), -1);
        FlexGrid g = Tell.gridWith(TRIANGLE, "ask 0 1 20 0;ask 0 1 12 0");
        // the other way is 120 long: format 1, so ten slots for the first, six for the second
        T.due("both dark", g.ifCut(0, 0, 0), 2);
        T.due("the first alone again", g.ifCut(0, 0, 1), 1);
        T.due("up to the last", g.ifCut(0, 0, 2), 9);
        T.due("in thought: up", g.gridIs(4), 7);
        T.due("in thought: lit", Tell.check(g, 0, 6), -1);
        T.due("rule -1", g.ifCut(0, -1, 0), -1);
        T.due("rule 4", g.ifCut(0, 4, 0), -1);
        T.due("what -1", g.ifCut(0, 0, -1), -1);
        T.due("what 3", g.ifCut(0, 0, 3), -1);
        T.due("link -1", g.ifCut(-1, 0, 0), -1);
        T.due("link 3", g.ifCut(3, 0, 0), -1);
        T.due("the last link", g.ifCut(2, 3, 1), 0);
        g.cut(0);
        T.due("is cut", g.ifCut(0, 0, 0), -2);
        T.due("is cut, but NONE comes first", g.ifCut(0, 4, 0), -1);
        T.due("is cut, but NONE comes first, too", g.ifCut(0, 0, 3), -1);
        T.due("forty", fortyLit().ifCut(0, 0, 0), 40);
        T.due("none of forty", fortyLit().ifCut(0, 0, 1), 0);
    }

    private static void kept() {
        T.says("KEPT is all but the tape; UNDONE: as it was KEPT last.");
        FlexGrid g = Tell.gridWith(TRIANGLE, "ask 0 1 8 0;ask 0 1 64 0;lasts 0 5;ticks 2;cut 2");
        g.seed(7);
        g.feed(1, 2, 3, 4, 5);
        T.due("two", g.keep(), 2);
        g.feed(1, 2, 3, 4, 5);
        for (int i = 0; i < 3; i++) {
            g.check(0);
            Tell.grid(g, "slots 9;link 0 1 7");
            g.seed(8);
            Tell.works(g, "ask 0 1 1 0;ticks 9;cut 0");
            g.feed(1, 2, 3, 4, 5);
            T.due("undone", g.undo(), true);
            T.due("the tape is not", g.count(1), 20);
            int[] want = {3, 10, 1, 3, 3, 2, 1, 1, 0, 0, 1, 2, 2, 7};
            for (int what = 0; what < want.length; what++) {
                T.due("gridIs " + what, g.gridIs(what), want[what]);
            }
            T.due("clauses", g.count(2), 5);
            T.due("end", g.demandIs(0, 11), 5);
            T.due("ways", g.way(0, 1, 0, 0), 30);
            T.due("no other way", g.way(0, 1, 0, 4), 1);
        }
        g.drop(0);
        T.due("kept anew", g.keep(), 2);
        g.drop(1);
        g.undo();
        T.due("as kept last: gone", g.demandIs(0, 3), 3);
        T.due("as kept last: blocked", g.demandIs(1, 3), 1);
    }

    private static void nothingKept() {
        T.says("UNDONE: true; false: nothing was KEPT.");
        FlexGrid g = Tell.gridWith(LINE, "ask 0 1 8 0");
        T.due("nothing", g.undo(), false);
        T.due("all stays", Tell.check(g, 0), -1);
        T.due("nothing still", g.undo(), false);
        T.due("a grid keeps nothing", Tell.grid(g, LINE), 2);
        T.due("nothing yet", g.undo(), false);
        FlexGrid first = new FlexGrid();
        T.due("none to keep", first.keep(), 0);
        Tell.grid(first, LINE);
        T.due("undone", first.undo(), true);
        T.due("as at first", first.gridIs(1), 40);
        T.due("no links", first.gridIs(3), 0);
    }

    private static void keptOfForty() {
        T.says("KEPT: how many DEMANDS.");
        FlexGrid g = fortyLit();
        T.due("forty", g.keep(), 40);
        for (int i = 0; i < 40; i++) {
            g.drop(i);
        }
        T.due("gone ones count", g.keep(), 40);
        g.undo();
        T.due("gone", g.gridIs(9), 40);
    }

    private static void checks() {
        T.says("CHECK: FIRST of DEMANDS 0, 1, .. (255: not LIT): right, or the first that is not so.");
        FlexGrid g = Tell.gridWith("nodes 3;slots 20;between 3;link 0 1 30;link 1 2 30",
            "ask 0 1 8 0;ask 0 1 64 0;ask 1 2 8 0;ask 0 1 4 0;drop 3;cut 1");
        T.due("lit, blocked, dark, gone", Tell.check(g, 0, 255, 255, 255), -1);
        for (int i = 0; i < 4; i++) {
            int[] firsts = {0, 255, 255, 255};
            firsts[i] = i == 0 ? 255 : 0;
            T.due("not so at " + i, Tell.check(g, firsts), i);
        }
        T.due("two are not so: the first", Tell.check(g, 0, 5, 255, 5), 1);
        T.says("NONE: right (behind all DEMANDS nothing is); else the first that is not so;");
        T.due("one behind all", Tell.check(g, 0, 255, 255, 255, 255), 4);
        T.due("a 0 behind all", Tell.check(g, 0, 255, 255, 255, 0), 4);
        T.due("wrong ahead of it", Tell.check(g, 0, 255, 0, 255, 255), 2);
        T.due("nothing to look at", Tell.check(g), -1);
        T.due("no demand at all", Tell.check(new FlexGrid()), -1);
        T.due("no demand, one byte", Tell.check(new FlexGrid(), 255), 0);
        T.says("-2: no such n, it has not so many (the tape stays).");
        T.due("an empty tape", g.check(1), -2);
        g.feed(0x00FFFFFF, 0, 0, 0, 0);
        int[] none = {-1, 21, 40, 41, Integer.MAX_VALUE, Integer.MIN_VALUE};
        for (int n : none) {
            T.due("n " + n, g.check(n), -2);
            T.due("the tape stays", g.count(1), 20);
        }
        T.due("as it was", g.check(4), -1);
        T.due("empty then", g.count(1), 0);
        g.feed(-1, -1, -1, -1, -1);
        T.due("wrong", g.check(1), 0);
        T.due("empty then, too", g.count(1), 0);
        g.feed(-1, -1, -1, -1, -1);
        T.due("n 0", g.check(0), -1);
        T.due("empty by it", g.count(1), 0);
    }

    private static void checksOfForty() {
        T.says("CHECK by the first n bytes of the tape (0 to 40; empty then):");
        FlexGrid g = fortyLit();
        int[] firsts = new int[40];
        for (int i = 0; i < 40; i++) {
            firsts[i] = i;
        }
        T.due("forty", Tell.check(g, firsts), -1);
        firsts[39] = 40;
        T.due("the last is not so", Tell.check(g, firsts), 39);
        g.jump(39, 59);
        firsts[39] = 59;
        T.due("the highest slot", Tell.check(g, firsts), -1);
        for (int i = 0; i < 3; i++) {
            g.feed(0, 0, 0, 0, 0);
        }
        T.due("forty-one", g.check(41), -2);
        T.due("the tape stays", g.count(1), 60);
        T.due("forty, wrong from 1 on", g.check(40), 1);
    }

    private static void counts() {
        T.says("0 DEMANDS, 1 bytes of the tape, 2 CLAUSES of the GRID. NONE for others.");
        FlexGrid g = fortyLit();
        Tell.feed(g, " ".repeat(240));
        T.due("forty", g.count(0), 40);
        T.due("240", g.count(1), 240);
        T.due("three", g.count(2), 3);
        int[] none = {-1, 3, Integer.MAX_VALUE, Integer.MIN_VALUE};
        for (int what : none) {
            T.due("what " + what, g.count(what), -1);
        }
    }

    private static void ownMemory() {
        T.says("All memory is the grid's own.");
        FlexGrid one = Tell.gridWith(LINE, "ask 0 1 8 0;ticks 3");
        FlexGrid other = Tell.gridWith("slots 9;link 0 1 99", "ask 0 1 8 3");
        other.seed(9);
        other.feed(1, 2, 3, 4, 5);
        other.keep();
        T.due("slots", one.gridIs(1), 20);
        T.due("first", one.demandIs(0, 4), 0);
        T.due("clock", one.gridIs(12), 3);
        T.due("X", one.gridIs(13), 1);
        T.due("tape", one.count(1), 0);
        T.due("ways", one.way(0, 1, 0, 0), 30);
        T.due("nothing kept", one.undo(), false);
    }
}
