/** What is told of grids, links, demands and ways that are empty, full, cut or not LIT. */
public final class BoundsOfLooksTest {
    private static final Tell T = new Tell("BoundsOfLooksTest");
    private static final String LINE = "slots 20;link 0 1 30";

    private BoundsOfLooksTest() { }

    public static void main(String[] args) {
        anEmptyGrid();
        aFullGrid();
        allInOneState();
        reaches();
        linksAsTold();
        anEmptyLink();
        aFullLink();
        aCutLink();
        litDemands();
        unlitDemands();
        endsByState();
        howFarItCouldSlide();
        waysOfNone();
        waysAsTheyAre();
        overWaysThatCanCarry();
        sweepsThatMoved();
        jumpsOnItsLinks();
        drawsAnew();
        T.end();
    }

    private static void gridIs(FlexGrid g, int... want) {
        for (int what = 0; what < want.length; what++) {
            T.due("gridIs " + what, g.gridIs(what), want[what]);
        }
    }

    private static void linkIs(FlexGrid g, int link, int... want) {
        for (int what = 0; what < want.length; what++) {
            T.due("linkIs " + link + " " + what, g.linkIs(link, what), want[what]);
        }
    }

    private static void demandIs(FlexGrid g, int demand, int... want) {
        for (int what = 0; what < want.length; what++) {
            T.due("demandIs " + demand + " " + what, g.demandIs(demand, what), want[what]);
        }
    }

    private static void anEmptyGrid() {
        T.says("Of the GRID, what 0 NODES, 1 SLOTS, 2 BETWEEN, 3 LINKS, 4 LINKS that are up (bits),");
        gridIs(new FlexGrid(), 2, 40, 1, 0, 0, 0, 0, 0, 0, 0, -1, 0, 0, 1, -2, -2, -2, -2, -2, -2, 200, 120, 80, 40,
            -2);
        gridIs(Tell.gridOf("nodes 8;slots 60;between 4"), 8, 60, 4, 0, 0, 0, 0, 0, 0, 0, -1, 0, 0, 1);
        gridIs(Tell.gridOf("slots 8;between 0;link 0 1 1"), 2, 8, 0, 1, 1, 0, 0, 0, 0, 0, -1, 0, 0, 1);
    }

    private static void aFullGrid() {
        T.says("5 DEMANDS, 6 LIT, 7 BLOCKED, 8 DARK, 9 GONE ones, 10 TOP, 11 slots used on all LINKS together,");
        StringBuilder b = new StringBuilder("slots 60;reach 1 0 0 0;nodes 6");
        int[][] pairs = new int[14][2];
        int links = 0;
        for (int p = 0; p < 6; p++) {
            for (int q = p + 1; q < 6 && links < 14; q++) {
                b.append(";link ").append(p).append(' ').append(q).append(" 1");
                pairs[links][0] = p;
                pairs[links][1] = q;
                links++;
            }
        }
        FlexGrid g = Tell.gridOf(b.toString());
        for (int i = 0; i < 14; i++) {
            T.due("link " + i, g.ask(pairs[i][0], pairs[i][1], 60, i % 4), i);
        }
        gridIs(g, 6, 60, 1, 14, 16383, 14, 14, 0, 0, 0, 59, 840, 0, 1);
        for (int i = 0; i < 14; i++) {
            linkIs(g, i, pairs[i][0], pairs[i][1], 1, 1, 60, 59, 0, 0, 0, 1);
            T.due("none more on " + i, g.more(pairs[i][0], pairs[i][1], 1, 0), 0);
        }
        T.due("nothing moves", g.sweeps(), 0);
        T.due("all cut", cutAll(g), 14);
        gridIs(g, 6, 60, 1, 14, 0, 14, 0, 0, 14, 0, -1, 0, 0, 1);
    }

    private static int cutAll(FlexGrid g) {
        int dark = 0;
        for (int link = 0; link < g.gridIs(3); link++) {
            dark += g.cut(link);
        }
        return dark;
    }

    private static void allInOneState() {
        T.says("6 LIT, 7 BLOCKED, 8 DARK, 9 GONE ones,");
        FlexGrid g = Tell.gridOf("slots 60;between 0;link 0 1 30");
        for (int i = 0; i < 40; i++) {
            g.ask(0, 1, 4, 0);
        }
        gridIs(g, 2, 60, 0, 1, 1, 40, 40, 0, 0, 0, 39, 40);
        g.cut(0);
        gridIs(g, 2, 60, 0, 1, 0, 40, 0, 0, 40, 0, -1, 0);
        for (int i = 0; i < 40; i++) {
            g.drop(i);
        }
        gridIs(g, 2, 60, 0, 1, 0, 40, 0, 0, 0, 40, -1, 0);
        FlexGrid none = new FlexGrid();
        for (int i = 0; i < 40; i++) {
            none.ask(1, 0, 64, 3);
        }
        gridIs(none, 2, 40, 1, 0, 0, 40, 0, 40, 0, 0, -1, 0);
    }

    private static void reaches() {
        T.says("20 + f REACH of FORMAT f; -2: no such what.");
        FlexGrid g = Tell.gridOf("reach 999 998 1 0");
        int[] want = {-2, 999, 998, 1, 0, -2};
        for (int i = 0; i < want.length; i++) {
            T.due("gridIs " + (19 + i), g.gridIs(19 + i), want[i]);
        }
    }

    private static void linksAsTold() {
        T.says("Of a LINK, what 0 its first NODE, 1 its other one (as told), 2 LENGTH, 3 whether it is up (1, 0),");
        FlexGrid g = Tell.gridOf("nodes 8;link 7 0 99;link 0 6 1");
        linkIs(g, 0, 7, 0, 99, 1);
        linkIs(g, 1, 0, 6, 1, 1);
        linkIs(g, 2, -1, -1, -1, -1, -1, -1, -1, -1, -1, -1);
        linkIs(g, -1, -1, -1, -1, -1, -1, -1, -1, -1, -1, -1);
        linkIs(new FlexGrid(), 0, -1, -1, -1, -1, -1, -1, -1, -1, -1, -1);
        T.due("no room of no link", g.linkIs(2, 21), -1);
    }

    private static void anEmptyLink() {
        T.says("4 slots used, 5 its TOP (none: -2),");
        linkIs(Tell.gridOf("slots 8;link 0 1 1"), 0, 0, 1, 1, 1, 0, -2, 8, 1, 0, 0);
        FlexGrid g = Tell.gridWith("slots 8;link 0 1 1", "ask 0 1 4 0");
        linkIs(g, 0, 0, 1, 1, 1, 1, 0, 7, 1, 0, 1);
        g.drop(0);
        linkIs(g, 0, 0, 1, 1, 1, 0, -2, 8, 1, 0, 0);
    }

    private static void aFullLink() {
        T.says("8 TORN, 9 DEMANDS on it (how many LIT ones);");
        FlexGrid g = Tell.gridWith("slots 8;between 0;link 0 1 1", "ask 0 1 16 0;ask 0 1 16 0;ask 0 1 1 0");
        linkIs(g, 0, 0, 1, 1, 1, 8, 7, 0, 0, 0, 2);
        FlexGrid one = Tell.gridWith("slots 8;between 0;link 0 1 1", "ask 0 1 12 0;ask 0 1 16 0");
        linkIs(one, 0, 0, 1, 1, 1, 7, 6, 1, 1, 0, 2);
        FlexGrid both = Tell.gridWith("slots 8;between 0;link 0 1 1", "ask 0 1 24 0");
        linkIs(both, 0, 0, 1, 1, 1, 6, 5, 2, 1, 0, 1);
    }

    private static void aCutLink() {
        T.says("3 whether it is up (1, 0), 4 slots used,");
        FlexGrid g = Tell.gridWith("nodes 3;slots 8;link 0 1 9;link 1 2 9", "ask 0 2 8 0;ask 1 2 4 3;cut 0");
        linkIs(g, 0, 0, 1, 9, 0, 0, -2, 8, 1, 0, 0);
        linkIs(g, 1, 1, 2, 9, 1, 1, 7, 7, 1, 0, 1);
        g.mend(0);
        linkIs(g, 0, 0, 1, 9, 1, 0, -2, 8, 1, 0, 0);
        g.relight(0);
        linkIs(g, 0, 0, 1, 9, 1, 2, 1, 6, 1, 0, 1);
        linkIs(g, 1, 1, 2, 9, 1, 3, 7, 5, 1, 0, 2);
    }

    private static void litDemands() {
        T.says("Of a DEMAND, what 0, 1 NODES, 2 RATE, 3 STATE, 4 FIRST, 5 WIDTH, 6 how many LINKS, 7 LINKS (bits),");
        FlexGrid g = Tell.gridOf(
            "nodes 8;slots 60;link 0 1 9;link 1 2 9;link 2 3 9;link 3 4 9;link 4 5 9;link 5 6 9;link 6 7 9");
        g.ask(7, 0, 64, 3);
        g.ask(0, 1, 1, 0);
        // it could slide till one free slot is between it and the one at 0
        demandIs(g, 0, 7, 0, 64, 0, 60 - 22, 22, 7, 127, 63, 2, 60 - 22 - 2, -2, -1);
        demandIs(g, 1, 0, 1, 1, 0, 0, 1, 1, 1, 9, 3, 0, -2, -1);
    }

    private static void unlitDemands() {
        T.says("10 how far it could SLIDE (4 to 10: -2 if it is not LIT),");
        FlexGrid g = Tell.gridWith("nodes 3;slots 20;between 3;link 0 1 30;link 1 2 30",
            "ask 0 1 8 0;ask 0 1 64 0;ask 2 1 8 0;ask 0 1 4 0;drop 3;cut 1");
        demandIs(g, 0, 0, 1, 8, 0, 0, 2, 1, 1, 30, 3, 0, -2, -1);
        demandIs(g, 1, 0, 1, 64, 1, -2, -2, -2, -2, -2, -2, -2, -2, -1);
        demandIs(g, 2, 2, 1, 8, 2, -2, -2, -2, -2, -2, -2, -2, -2, -1);
        demandIs(g, 3, 0, 1, 4, 3, -2, -2, -2, -2, -2, -2, -2, -2, -1);
        demandIs(g, 4, -1, -1, -1, -1, -1, -1, -1, -1, -1, -1, -1, -1, -1);
        demandIs(g, -1, -1, -1, -1, -1, -1, -1, -1, -1, -1, -1, -1, -1, -1);
    }

    private static void endsByState() {
        T.says("11 its END (none, or neither LIT nor DARK: -2);");
        FlexGrid g = Tell.gridWith(LINE, "ask 0 1 8 0;ask 0 1 8 0;ask 0 1 64 0");
        T.due("none", g.demandIs(0, 11), -2);
        g.lasts(0, 1);
        g.lasts(1, 9999);
        T.due("lit", g.demandIs(0, 11), 1);
        T.due("the furthest", g.demandIs(1, 11), 9999);
        T.due("blocked", g.demandIs(2, 11), -2);
        g.cut(0);
        T.due("dark", g.demandIs(0, 11), 1);
        g.ticks(1);
        T.due("gone", g.demandIs(0, 11), -2);
        T.due("dark still", g.demandIs(1, 11), 9999);
        g.drop(1);
        T.due("dropped", g.demandIs(1, 11), -2);
        T.due("a new one has none", anew(g), -2);
    }

    private static int anew(FlexGrid g) {
        g.mend(0);
        return g.demandIs(g.ask(0, 1, 8, 0), 11);
    }

    private static void howFarItCouldSlide() {
        T.says("10 how far it could SLIDE");
        FlexGrid g = Tell.gridWith(LINE, "ask 0 1 8 0;ask 0 1 8 3");
        T.due("not at all", g.demandIs(0, 10), 0);
        T.due("so far", g.demandIs(1, 10), 15);
        T.due("it stays", g.demandIs(1, 4), 18);
        T.due("and slides as far", g.slide(1), 15);
        T.due("no further", g.demandIs(1, 10), 0);
        g.jump(1, 5);
        T.due("two", g.demandIs(1, 10), 2);
    }

    private static void waysOfNone() {
        T.says("-2: there are not so many; NONE: no such ones (unlike NODES).");
        FlexGrid none = new FlexGrid();
        FlexGrid one = Tell.gridOf("link 0 1 99");
        for (int k = 0; k < 4; k++) {
            for (int what = 0; what < 4; what++) {
                T.due("none, way " + k + " " + what, none.way(0, 1, k, what), -2);
                T.due("one, way " + k + " " + what, one.way(1, 0, k, what) == -2, k > 0);
            }
            T.due("how many of none", none.way(0, 1, k, 4), 0);
            T.due("how many of one", one.way(0, 1, k, 4), 1);
        }
        one.cut(0);
        T.due("cut", one.way(0, 1, 0, 4), 0);
    }

    private static void waysAsTheyAre() {
        T.says("Of WAY k between two NODES, what 0 LENGTH, 1 how many LINKS, 2 LINKS (bits), 3 FORMAT (none: -2),");
        FlexGrid g = Tell.gridOf(
            "nodes 8;link 0 1 99;link 1 2 99;link 2 3 99;link 3 4 99;link 4 5 99;link 5 6 99;link 6 7 99");
        int[] want = {693, 7, 127, -2, 1, -1};
        for (int what = 0; what < want.length; what++) {
            T.due("the longest " + what, g.way(0, 7, 0, what), want[what]);
        }
        FlexGrid reaching = Tell.gridOf("reach 693 692 0 0;nodes 8;link 0 1 99;link 1 2 99;link 2 3 99;link 3 4 99;"
            + "link 4 5 99;link 5 6 99;link 6 7 99");
        T.due("just so far", reaching.way(7, 0, 0, 3), 0);
        T.due("one link less", reaching.way(7, 1, 0, 3), 1);
    }

    private static void overWaysThatCanCarry() {
        T.says("RULES by which a WINDOW is found, over WAYS that can carry, in order, and slots that FIT:");
        String net = "nodes 3;slots 10;reach 20 20 20 20;link 0 1 10;link 1 2 10;link 0 2 ";
        FlexGrid can = Tell.gridWith(net + "20", "ask 0 1 20 0;ask 1 2 20 3");
        // the way by one link is as long, so it comes first
        for (int rule = 0; rule < 4; rule++) {
            T.due("it carries, rule " + rule, can.found(0, 2, 40, rule, 0), 0);
        }
        FlexGrid not = Tell.gridWith(net + "21", "ask 0 1 20 0;ask 1 2 16 3");
        for (int rule = 0; rule < 4; rule++) {
            T.due("it does not, rule " + rule, not.found(0, 2, 1, rule, 0), -2);
            T.due("nor is anything found later, rule " + rule, not.more(0, 2, 1, rule), 0);
        }
        not.drop(0);
        T.due("the other does", not.found(0, 2, 1, 3, 0), 0);
        T.due("below the upper one", not.found(0, 2, 1, 3, 1), 4);
    }

    private static void sweepsThatMoved() {
        T.says("SWEEPS: how many there were that moved some.");
        T.due("of none", new FlexGrid().sweeps(), 0);
        FlexGrid g = Tell.gridWith(LINE, "ask 0 1 8 0;ask 0 1 8 0");
        T.due("of two at the bottom", g.sweeps(), 0);
        g.drop(0);
        T.due("of one above it", g.sweeps(), 1);
        T.due("of one at it", g.sweeps(), 0);
        FlexGrid full = Tell.gridWith("slots 8;link 0 1 1", "ask 0 1 32 0");
        T.due("of one that fills all", full.sweeps(), 0);
    }

    private static void jumpsOnItsLinks() {
        T.says("JUMP of a LIT DEMAND to a slot, on its LINKS:");
        FlexGrid g = Tell.gridWith("nodes 3;slots 10;link 0 1 30;link 1 2 30;link 0 2 90", "ask 0 2 6 0;ask 0 2 9 3");
        T.due("both on the first way", g.demandIs(1, 7), 3);
        T.due("over nothing", g.jump(0, 2), -2);
        T.due("the same links", g.demandIs(0, 7), 3);
        T.due("the same width", g.demandIs(0, 5), 2);
        T.due("its slots moved on both", g.linkIs(1, 4), 5);
        T.due("its old slots are free", g.witness(0, 1, 1, 0, 0), -2);
        T.due("its new ones are not", g.witness(0, 1, 1, 0, 2), 0);
    }

    private static void drawsAnew() {
        T.says("(X anew each time: X = (25173 X + 13849) modulo 65536; THE SEED at first, 1; X stays as it was).");
        // of the seed whose next X is 0 the draws behind it are those of seed 0
        int ahead = 0;
        for (int seed = 0; seed < 65536; seed++) {
            if ((25173L * seed + 13849) % 65536 == 0) {
                ahead = seed;
            }
        }
        FlexGrid g = Tell.gridOf("nodes 8;slots 60;reach 9 0 0 0;link 0 1 9");
        g.seed(ahead);
        long second = 13849;
        long third = (25173 * second + 13849) % 65536;
        boolean lit = (1 + second % 7) % 8 == 1;
        T.due("P is 0, and Q drawn behind it", g.trial(1, 64, 0, 3), lit ? 1 : 0);
        T.due("the rate drawn behind it", g.trial(1, 64, 0, 1), lit ? 0 : (int) (1 + third % 64));
        T.due("X stays", g.gridIs(13), ahead);
        g.seed(65535);
        T.due("the greatest seed", g.trial(1, 64, 0, 1), blockedRate(65535));
        T.due("X stays, too", g.gridIs(13), 65535);
    }

    private static int blockedRate(int seed) {
        long a = (25173L * seed + 13849) % 65536;
        long b = (25173 * a + 13849) % 65536;
        long c = (25173 * b + 13849) % 65536;
        long p = a % 8;
        long q = (p + 1 + b % 7) % 8;
        return p + q == 1 && 1 + c % 64 <= 60 ? 0 : (int) (1 + c % 64);
    }
}
