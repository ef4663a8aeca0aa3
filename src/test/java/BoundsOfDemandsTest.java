/** The bounds of WAYS, FORMATS, WIDTHS, RATES, DEMANDS, WINDOWS, RULES and WITNESSES. */
public final class BoundsOfDemandsTest {
    private static final Tell T = new Tell("BoundsOfDemandsTest");
    private static final String TRIANGLE = "nodes 3;slots 10;link 0 1 30;link 1 2 30;link 0 2 90";

    private BoundsOfDemandsTest() { }

    public static void main(String[] args) {
        linksThatAreUp();
        unlikeNodes();
        byLengthFirst();
        byHowManyLinks();
        byTheirNodes();
        theFirstFour();
        formats();
        cannotCarry();
        widths();
        rates();
        fortyDemands();
        notBeyondTheLastSlot();
        betweenApart();
        onEachOfThem();
        eachOtherLitOne();
        states();
        firstWayLow();
        lowestOfAllWays();
        theTightest();
        theTightestOfLikeOnes();
        freeOnAllLinks();
        firstWayHigh();
        nothingFits();
        witnesses();
        noWitness();
        blockedByWhom();
        linksThatAllShare();
        waysInAnyOrder();
        T.end();
    }

    private static void linksThatAreUp() {
        T.says("WAYS from a NODE to another one: rows of LINKS that are up, by unlike NODES;");
        FlexGrid g = Tell.gridOf(TRIANGLE);
        T.due("two", g.way(0, 2, 0, 4), 2);
        g.cut(0);
        T.due("one", g.way(0, 2, 0, 4), 1);
        g.cut(2);
        T.due("none", g.way(0, 2, 0, 4), 0);
        T.due("none of them", g.way(0, 2, 0, 0), -2);
        g.mend(2);
        T.due("one again", g.way(0, 2, 0, 4), 1);
        T.due("of one link", g.way(0, 2, 0, 1), 1);
        T.due("no links at all", new FlexGrid().way(0, 1, 0, 4), 0);
    }

    private static void unlikeNodes() {
        T.says("rows of LINKS that are up, by unlike NODES;");
        FlexGrid g = Tell.gridOf("nodes 5;link 0 1 5;link 1 2 5;link 2 3 5;link 3 1 5;link 3 4 5");
        T.due("by 1 once alone", g.way(0, 4, 0, 4), 2);
        T.due("short", g.way(0, 4, 0, 2), 1 + 8 + 16);
        T.due("long", g.way(0, 4, 1, 2), 1 + 2 + 4 + 16);
        FlexGrid eight = Tell.gridOf(
            "nodes 8;link 0 1 9;link 1 2 9;link 2 3 9;link 3 4 9;link 4 5 9;link 5 6 9;link 6 7 9");
        T.due("by all eight", eight.way(0, 7, 0, 1), 7);
        T.due("so long", eight.way(7, 0, 0, 0), 63);
        FlexGrid apart = Tell.gridOf("nodes 4;link 0 1 5;link 2 3 5");
        T.due("no row", apart.way(0, 2, 0, 4), 0);
        T.due("a node with itself", apart.way(0, 0, 0, 4), -1);
        FlexGrid back = Tell.gridOf("nodes 4;link 1 2 5;link 2 3 5;link 3 1 5;link 1 0 5");
        T.due("not by the first node again", back.way(1, 0, 0, 4), 1);
        T.due("nor by the last", back.way(0, 1, 0, 4), 1);
    }

    private static void byLengthFirst() {
        T.says("by LENGTH in all, of as long ones by how many LINKS,");
        FlexGrid g = Tell.gridOf("nodes 4;link 0 3 31;link 0 1 10;link 1 2 10;link 2 3 10");
        T.due("30 by three", g.way(0, 3, 0, 2), 14);
        T.due("31 by one", g.way(0, 3, 1, 2), 1);
        FlexGrid like = Tell.gridOf("nodes 4;link 0 1 10;link 1 2 10;link 2 3 10;link 0 3 30");
        T.due("30 by one", like.way(0, 3, 0, 2), 8);
        T.due("30 by three, too", like.way(0, 3, 1, 2), 7);
    }

    private static void byHowManyLinks() {
        T.says("of as long ones by how many LINKS, of as many by their NODES from the first on");
        FlexGrid g = Tell.gridOf("nodes 6;link 0 1 10;link 1 2 10;link 2 5 10;link 0 4 15;link 4 5 15;link 0 5 30");
        T.due("one link", g.way(0, 5, 0, 2), 32);
        T.due("two links, by a higher node", g.way(0, 5, 1, 2), 24);
        T.due("three links", g.way(0, 5, 2, 2), 7);
    }

    private static void byTheirNodes() {
        T.says("(the lower number at the first place where they are unlike);");
        FlexGrid g = Tell.gridOf(
            "nodes 6;link 2 5 5;link 3 5 5;link 1 2 5;link 1 3 5;link 0 1 5;link 0 4 5;link 4 2 5");
        int[] want = {16 + 4 + 1, 16 + 8 + 2, 32 + 64 + 1};
        for (int k = 0; k < 3; k++) {
            T.due("way " + k, g.way(0, 5, k, 2), want[k]);
        }
        int[] back = {16 + 4 + 1, 32 + 64 + 1, 16 + 8 + 2};
        for (int k = 0; k < 3; k++) {
            T.due("from the other end " + k, g.way(5, 0, k, 2), back[k]);
        }
    }

    /** So many ways from 0 to 1: by node 2, by node 3, and so on. */
    private static FlexGrid fan(int ways) {
        StringBuilder b = new StringBuilder("nodes 8");
        for (int i = 0; i < ways; i++) {
            b.append(";link 0 ").append(i + 2).append(" 5;link 1 ").append(i + 2).append(" 5");
        }
        return Tell.gridOf(b.toString());
    }

    private static void theFirstFour() {
        T.says("the first 4 of these alone are WAYS, numbered from 0 on.");
        for (int ways = 1; ways <= 6; ways++) {
            FlexGrid g = fan(ways);
            T.due("of " + ways, g.way(0, 1, 0, 4), Math.min(ways, 4));
            for (int k = 0; k < 4; k++) {
                T.due("of " + ways + " way " + k, g.way(0, 1, k, 2), k < ways ? 3 << 2 * k : -2);
            }
            T.due("no way 4", g.way(0, 1, 4, 2), -1);
        }
        FlexGrid five = fan(5);
        for (int i = 0; i < 4; i++) {
            five.ask(0, i + 2, 64, 0);
            five.ask(0, i + 2, 64, 0);
            five.ask(0, i + 2, 12, 0);
        }
        T.due("the fifth is free, but no way", five.blocked(0, 1, 64, 0), 1);
        five.cut(0);
        T.due("now it is the fourth", five.found(0, 1, 64, 0, 0), 3);
    }

    private static void formats() {
        T.says("The FORMAT of a WAY: the greatest whose REACH is not below its LENGTH (none: it can't carry).");
        int[][] want = {{10, 3}, {11, 2}, {20, 2}, {21, 1}, {30, 1}, {31, 0}, {40, 0}, {41, -2}};
        for (int[] w : want) {
            FlexGrid g = Tell.gridOf("reach 40 30 20 10;link 0 1 " + w[0]);
            T.due("format of " + w[0], g.way(0, 1, 0, 3), w[1]);
        }
        T.due("of like reaches the greatest", Tell.gridOf("reach 9 9 9 9;link 0 1 9").way(0, 1, 0, 3), 3);
        FlexGrid g = Tell.gridWith("reach 40 30 20 10;link 0 1 20", "ask 0 1 9 0");
        T.due("a demand's format", g.demandIs(0, 9), 2);
    }

    private static void cannotCarry() {
        T.says("(none: it can't carry)");
        FlexGrid g = Tell.gridOf("reach 40 0 0 0;link 0 1 41");
        T.due("it is a way", g.way(0, 1, 0, 4), 1);
        T.due("of no format", g.way(0, 1, 0, 3), -2);
        T.due("its length", g.way(0, 1, 0, 0), 41);
        T.due("blocked", g.ask(0, 1, 1, 0), -2);
        T.due("more", g.more(0, 1, 1, 0), 0);
        FlexGrid two = Tell.gridOf("nodes 3;reach 40 0 0 0;link 0 1 21;link 1 2 20;link 0 2 42");
        T.due("neither", two.blocked(0, 2, 1, 0), 1);
        FlexGrid one = Tell.gridOf("nodes 3;reach 41 0 0 0;link 0 1 21;link 1 2 20;link 0 2 42");
        T.due("one of them", one.found(0, 2, 1, 3, 0), 0);
    }

    private static void widths() {
        T.says("The WIDTH of a RATE (1 to 64) by it: RATE by the FORMAT and 1, rounded up.");
        int[] lengths = {40, 30, 20, 10};
        for (int f = 0; f < 4; f++) {
            FlexGrid g = Tell.gridOf("slots 60;reach 40 30 20 10;link 0 1 " + lengths[f]);
            for (int rate = 1; rate <= 64; rate++) {
                int width = rate / (f + 1) + (rate % (f + 1) == 0 ? 0 : 1);
                T.due("format " + f + " rate " + rate, g.found(0, 1, rate, 0, 2), width <= 60 ? width : -2);
            }
        }
    }

    private static void rates() {
        T.says("NONE: no such ones (unlike NODES, RATE 1 to 64, RULE).");
        int[] none = {0, -1, 65, Integer.MAX_VALUE, Integer.MIN_VALUE};
        for (int rate : none) {
            FlexGrid g = Tell.gridOf(TRIANGLE);
            T.due("ask " + rate, g.ask(0, 1, rate, 0), -1);
            T.due("none came", g.gridIs(5), 0);
            T.due("found " + rate, g.found(0, 1, rate, 0, 0), -1);
            T.due("witness " + rate, g.witness(0, 1, rate, 0, 0), -1);
            T.due("blocked " + rate, g.blocked(0, 1, rate, 0), -1);
            T.due("parts " + rate, g.parts(0, 1, rate, 0), -1);
            T.due("more " + rate, g.more(0, 1, rate, 0), -1);
        }
        FlexGrid g = Tell.gridOf("slots 16;link 0 1 30");
        T.due("1", g.found(0, 1, 1, 0, 2), 1);
        T.due("64", g.found(0, 1, 64, 0, 2), 16);
        T.due("lit", g.ask(0, 1, 64, 0), 0);
    }

    private static void fortyDemands() {
        T.says("DEMANDS, numbered from 0 on as they are asked, 40 at most:");
        FlexGrid g = Tell.gridOf("slots 60;between 0;link 0 1 30");
        T.due("none", g.demandIs(0, 3), -1);
        for (int i = 0; i < 40; i++) {
            T.due("number " + i, g.ask(0, 1, 1, 0), i);
        }
        T.due("the last", g.demandIs(39, 3), 0);
        T.due("no 41st", g.ask(0, 1, 1, 0), -3);
        T.due("not there", g.demandIs(40, 3), -1);
        T.due("forty", g.gridIs(5), 40);
        T.due("no slot more", g.gridIs(11), 40);
        g.drop(0);
        T.due("gone ones count", g.ask(0, 1, 1, 0), -3);
        FlexGrid none = new FlexGrid();
        for (int i = 0; i < 40; i++) {
            T.due("blocked " + i, none.ask(0, 1, 1, 0), -2);
        }
        T.due("blocked ones count", none.ask(0, 1, 1, 0), -3);
        T.due("forty blocked", none.gridIs(7), 40);
    }

    private static void notBeyondTheLastSlot() {
        T.says("A WINDOW (FIRST s, WIDTH v, s + v not above m) FITS on LINKS for a DEMAND,");
        FlexGrid g = Tell.gridOf("slots 10;link 0 1 30");
        T.due("all of it", g.found(0, 1, 40, 0, 2), 10);
        T.due("one too many", g.found(0, 1, 41, 0, 2), -2);
        T.due("at the last", g.witness(0, 1, 4, 0, 9), -2);
        T.due("one beyond", g.witness(0, 1, 5, 0, 9), -3);
        T.due("two at the last but one", g.witness(0, 1, 5, 0, 8), -2);
        T.due("ten at 0", g.witness(0, 1, 40, 0, 0), -2);
        T.due("ten at 1", g.witness(0, 1, 40, 0, 1), -3);
        T.due("eleven at 0", g.witness(0, 1, 41, 0, 0), -3);
        T.due("all asked", g.ask(0, 1, 40, 3), 0);
        T.due("nothing free", g.linkIs(0, 6), 0);
        T.due("full", g.ask(0, 1, 1, 0), -2);
    }

    private static void betweenApart() {
        T.says("each other LIT DEMAND's slots are BETWEEN or more slots apart from its own");
        for (int free = 0; free <= 4; free++) {
            FlexGrid g = Tell.gridWith("slots 30;between " + free + ";link 0 1 30", "ask 0 1 12 0;jump 0 12");
            int below = 12 - free - 2;
            int above = 15 + free;
            T.due("below, so many between", g.witness(0, 1, 8, 0, below), -2);
            T.due("below, one less", g.witness(0, 1, 8, 0, below + 1), 0);
            T.due("above, so many between", g.witness(0, 1, 8, 0, above), -2);
            T.due("above, one less", g.witness(0, 1, 8, 0, above - 1), 0);
            T.due("upon it", g.witness(0, 1, 8, 0, 13), 0);
            T.due("about it", g.witness(0, 1, 20, 0, 11), 0);
            T.due("the row below just so long", g.found(0, 1, 4 * (below + 2), 0, 1), 0);
            T.due("one more goes above", g.found(0, 1, 4 * (below + 2) + 1, 0, 1), above);
            T.due("the row above just so long", g.found(0, 1, 4 * (30 - above), 0, 1), above);
            T.due("one more goes nowhere", g.found(0, 1, 4 * (30 - above) + 1, 0, 1), -2);
        }
    }

    private static void onEachOfThem() {
        T.says("if on each of them each other LIT DEMAND's slots");
        FlexGrid g = Tell.gridWith(TRIANGLE, "ask 1 2 8 0");
        T.due("free on the first link", g.witness(0, 1, 4, 0, 0), -2);
        T.due("not on the second", g.witness(0, 2, 4, 0, 0), 0);
        T.due("nor side by side", g.witness(0, 2, 3, 0, 2), 0);
        T.due("apart", g.witness(0, 2, 3, 0, 3), -2);
        T.due("the other way", g.witness(0, 2, 3, 1, 0), -2);
        T.due("found there", g.found(0, 2, 3, 0, 1), 3);
    }

    private static void eachOtherLitOne() {
        T.says("(so many free ones between at least).");
        FlexGrid g = Tell.gridWith("slots 10;link 0 1 30", "ask 0 1 40 0");
        T.due("lit", g.blocked(0, 1, 1, 0), 1);
        g.ask(0, 1, 40, 0);
        g.drop(0);
        T.due("gone and blocked ones take none", g.found(0, 1, 40, 0, 1), 0);
        g.ask(0, 1, 40, 0);
        g.cut(0);
        g.mend(0);
        T.due("dark ones take none", g.found(0, 1, 40, 0, 1), 0);
        T.due("its own slots are not in its way", Tell.gridWith("slots 8;link 0 1 30", "ask 0 1 16 3").slide(0), 4);
    }

    private static void states() {
        T.says("STATES: 0 LIT, 1 BLOCKED (it found none), 2 DARK (a LINK of it was cut), 3 GONE.");
        FlexGrid g = Tell.gridWith(TRIANGLE, "ask 0 1 8 0;ask 0 1 64 0;ask 1 2 8 0;ask 1 2 8 0;drop 3;cut 1");
        for (int i = 0; i < 4; i++) {
            T.due("state " + i, g.demandIs(i, 3), i);
            T.due("how many of " + i, g.gridIs(6 + i), 1);
        }
    }

    private static void firstWayLow() {
        T.says("0 the first WAY with one, its lowest slot;");
        FlexGrid g = Tell.gridWith(TRIANGLE, "ask 0 1 28 0");
        T.due("the first way has one", g.found(0, 2, 6, 0, 0), 0);
        T.due("its lowest", g.found(0, 2, 6, 0, 1), 8);
        T.due("the first way has none", g.found(0, 2, 7, 0, 0), 1);
        T.due("the lowest there", g.found(0, 2, 7, 0, 1), 0);
    }

    private static void lowestOfAllWays() {
        T.says("1 the lowest slot of all WAYS, of like ones the first WAY;");
        FlexGrid g = Tell.gridOf(TRIANGLE);
        T.due("like: the first way", g.found(0, 2, 6, 1, 0), 0);
        Tell.works(g, "ask 0 1 4 0;ask 0 2 1 1;ask 0 2 1 1");
        T.due("the second way first", g.demandIs(1, 7), 4);
        T.due("like at 2: the first way", g.demandIs(2, 7), 3);
        T.due("at 2", g.demandIs(2, 4), 2);
        T.due("lower on the second", g.found(0, 2, 1, 1, 0), 1);
        T.due("by one", g.found(0, 2, 1, 1, 1), 2);
    }

    private static void theTightest() {
        T.says("2 the tightest: the WINDOW with the fewest free slots side by side about it");
        FlexGrid g = Tell.gridWith("slots 20;between 0;link 0 1 30",
            "ask 0 1 12 0;ask 0 1 4 0;ask 0 1 8 0;ask 0 1 4 0;drop 0;drop 2");
        int[][] want = {{4, 4}, {8, 4}, {9, 0}, {12, 0}, {13, 7}, {52, 7}, {53, -2}};
        for (int[] w : want) {
            T.due("rate " + w[0], g.found(0, 1, w[0], 2, 1), w[1]);
        }
        FlexGrid near = Tell.gridWith("slots 20;between 1;link 0 1 30", "ask 0 1 4 0;ask 0 1 8 3;jump 0 4");
        // rows of four (0 to 3) and of thirteen (5 to 17): BETWEEN makes them narrower, but counts not as used
        T.due("three fit below", near.found(0, 1, 12, 2, 1), 0);
        T.due("four do not", near.found(0, 1, 13, 2, 1), 6);
    }

    private static void theTightestOfLikeOnes() {
        T.says("of like ones the first WAY, then the lowest slot;");
        FlexGrid g = Tell.gridOf(TRIANGLE);
        T.due("like: the first way", g.found(0, 2, 6, 2, 0), 0);
        T.due("like: the lowest slot", g.found(0, 2, 6, 2, 1), 0);
        g.ask(0, 1, 4, 3);
        T.due("nine on the first, ten on the second", g.found(0, 2, 3, 2, 0), 0);
        FlexGrid other = Tell.gridWith(TRIANGLE, "cut 0;ask 0 2 1 3;mend 0");
        T.due("ten on the first, nine on the second", other.found(0, 2, 3, 2, 0), 1);
        FlexGrid rows = Tell.gridWith("slots 11;between 0;link 0 1 30",
            "ask 0 1 4 0;ask 0 1 4 0;jump 0 3;jump 1 7");
        T.due("three rows of three", rows.linkIs(0, 7), 3);
        T.due("the lowest of them", rows.found(0, 1, 12, 2, 1), 0);
        T.due("too wide for all", rows.found(0, 1, 13, 2, 1), -2);
        FlexGrid bottom = Tell.gridWith("slots 8;between 0;link 0 1 30", "ask 0 1 4 0;ask 0 1 4 0;jump 1 4");
        T.due("1 to 3, as long as 5 to 7", bottom.found(0, 1, 4, 2, 1), 1);
        FlexGrid last = Tell.gridWith("slots 8;between 0;link 0 1 30", "ask 0 1 4 3;ask 0 1 4 0;jump 1 4");
        T.due("5 to 6, shorter than 0 to 3", last.found(0, 1, 4, 2, 1), 5);
        FlexGrid ways = Tell.gridWith("nodes 3;slots 10;link 0 1 10;link 1 2 10;link 0 2 30",
            "ask 0 1 24 0;cut 1;ask 0 2 24 3;mend 1");
        // four free at the top of the first way, four at the bottom of the second
        T.due("as tight: the first way", ways.found(0, 2, 12, 2, 0), 0);
        T.due("though its slot is higher", ways.found(0, 2, 12, 2, 1), 7);
    }

    private static void freeOnAllLinks() {
        T.says("(itself, too: a slot is free here, if it is free on all of the WAY's LINKS, BETWEEN not looked at)");
        FlexGrid g = Tell.gridOf("nodes 3;slots 12;between 0;link 0 1 20;link 1 2 20");
        Tell.works(g, "ask 0 1 4 0;jump 0 3;ask 1 2 4 0;jump 1 8");
        // together 0 to 2, 4 to 7 and 9 to 11 are free
        T.due("on one link", g.found(0, 1, 4, 2, 1), 0);
        T.due("the second row of the link", g.found(1, 2, 4, 2, 1), 9);
        T.due("on both", g.found(0, 2, 12, 2, 1), 0);
        T.due("four on both", g.found(0, 2, 13, 2, 1), 4);
        FlexGrid near = Tell.gridWith("slots 12;between 2;link 0 1 30", "ask 0 1 4 0;jump 0 7");
        // seven free below, four above: two above fit with BETWEEN, the row is of four all the same
        T.due("the tighter row", near.found(0, 1, 8, 2, 1), 10);
        T.due("no longer", near.found(0, 1, 9, 2, 1), 0);
    }

    private static void firstWayHigh() {
        T.says("3 the first WAY with one, its highest slot.");
        FlexGrid g = Tell.gridWith(TRIANGLE, "ask 0 1 4 3");
        T.due("the first way", g.found(0, 2, 6, 3, 0), 0);
        T.due("below the last", g.found(0, 2, 6, 3, 1), 6);
        T.due("just so wide", g.found(0, 2, 24, 3, 1), 0);
        T.due("wider: the other way", g.found(0, 2, 20, 3, 0), 0);
        FlexGrid low = Tell.gridWith(TRIANGLE, "ask 0 1 32 3");
        T.due("one below it", low.found(0, 2, 3, 3, 1), 0);
        T.due("two are too many", low.found(0, 2, 4, 3, 0), 1);
        T.due("the highest there", low.found(0, 2, 4, 3, 1), 8);
        T.due("just so wide there", low.found(0, 2, 20, 3, 1), 0);
    }

    private static void nothingFits() {
        T.says("-2: it would be BLOCKED; NONE: no such ones.");
        FlexGrid full = Tell.gridWith("slots 8;between 0;link 0 1 30", "ask 0 1 32 0");
        FlexGrid none = new FlexGrid();
        for (int rule = 0; rule < 4; rule++) {
            for (int what = 0; what < 3; what++) {
                T.due("full, rule " + rule, full.found(0, 1, 1, rule, what), -2);
                T.due("no way, rule " + rule, none.found(0, 1, 1, rule, what), -2);
            }
            T.due("full, asked by " + rule, full.ask(0, 1, 1, rule), -2);
            T.due("no way, asked by " + rule, none.ask(0, 1, 1, rule), -2);
        }
    }

    private static void witnesses() {
        T.says("the lowest LIT DEMAND on whose account it does not FIT; -2: it FITS;");
        FlexGrid g = Tell.gridWith("slots 20;link 0 1 30", "ask 0 1 8 0;ask 0 1 8 0;ask 0 1 8 0;jump 0 9");
        // now 1 at 3, 2 at 6, 0 at 9
        int[] want = {-2, -2, 1, 1, 1, 1, 2, 2, 0, 0, 0, 0, -2};
        for (int slot = 0; slot < want.length; slot++) {
            T.due("one slot at " + slot, g.witness(0, 1, 4, 0, slot), want[slot]);
        }
        T.due("all of them: the lowest", g.witness(0, 1, 40, 0, 2), 0);
        g.drop(0);
        T.due("gone ones are none", g.witness(0, 1, 4, 0, 9), -2);
        g.ask(0, 1, 64, 0);
        T.due("blocked ones are none", g.witness(0, 1, 4, 0, 19), -2);
    }

    private static void noWitness() {
        T.says("-3: it would go beyond the last slot; -4: there is no such WAY, it can't carry;");
        FlexGrid g = Tell.gridWith("nodes 3;slots 10;reach 60 60 60 60;link 0 1 30;link 1 2 30;link 0 2 61",
            "ask 0 2 40 0");
        T.due("in the way", g.witness(0, 2, 4, 0, 9), 0);
        T.due("beyond, though one is in the way", g.witness(0, 2, 5, 0, 9), -3);
        T.due("can't carry", g.witness(0, 2, 4, 1, 0), -4);
        T.due("can't carry, though beyond", g.witness(0, 2, 64, 1, 9), -4);
        T.due("no such way", g.witness(0, 2, 4, 2, 0), -4);
        T.due("no such way, the last k", g.witness(0, 2, 64, 3, 9), -4);
        T.due("no such k", g.witness(0, 2, 4, 4, 0), -1);
        T.due("no such slot, though no way", g.witness(0, 2, 4, 3, 10), -1);
    }

    private static void blockedByWhom() {
        T.says("what 1 by how many DEMANDS that are WITNESSES of it,");
        FlexGrid g = Tell.gridOf("slots 10;between 0;link 0 1 30");
        T.due("nobody", g.blocked(0, 1, 1, 1), 0);
        T.due("too wide, by nobody", g.blocked(0, 1, 41, 1), 0);
        T.due("too wide", g.blocked(0, 1, 41, 0), 1);
        T.due("just so wide", g.blocked(0, 1, 40, 0), 0);
        Tell.works(g, "ask 0 1 20 0;ask 0 1 20 0");
        T.due("full", g.blocked(0, 1, 1, 0), 1);
        T.due("by both", g.blocked(0, 1, 1, 1), 2);
        T.due("six wide: the lower one in every place", g.blocked(0, 1, 24, 1), 1);
        T.due("five wide: one place above", g.blocked(0, 1, 20, 1), 2);
        FlexGrid lowest = Tell.gridWith("slots 8;between 0;link 0 1 30", "ask 0 1 20 3;ask 0 1 4 0");
        T.due("1 at slot 0", lowest.witness(0, 1, 12, 0, 0), 1);
        T.due("0 at slot 1", lowest.witness(0, 1, 12, 0, 1), 0);
        T.due("the witness of slot 0 counts", lowest.blocked(0, 1, 12, 1), 2);
        FlexGrid below = Tell.gridWith("slots 8;between 0;link 0 1 30", "ask 0 1 4 0;jump 0 1;ask 0 1 4 0");
        T.due("0 at slot 0", below.witness(0, 1, 8, 0, 0), 0);
        T.due("there is no slot below", below.blocked(0, 1, 8, 1), 1);
        FlexGrid many = Tell.gridOf("slots 60;between 0;link 0 1 30");
        for (int i = 0; i < 40; i++) {
            many.ask(0, 1, 4, 0);
        }
        T.due("the last of forty", many.witness(0, 1, 4, 0, 39), 39);
        T.due("behind the last of forty", many.witness(0, 1, 4, 0, 40), -2);
        T.due("forty witnesses", many.blocked(0, 1, 4, 1), 40);
    }

    private static void linksThatAllShare() {
        T.says("2 LINKS that all WAYS that can carry share (bits); what 0: 1, 0; -4: no WAY can carry (1, 2);");
        T.due("none carries", Tell.gridOf("reach 9 9 9 9;link 0 1 10").blocked(0, 1, 1, 2), -4);
        T.due("none carries: by whom", Tell.gridOf("reach 9 9 9 9;link 0 1 10").blocked(0, 1, 1, 1), -4);
        T.due("none carries: blocked", Tell.gridOf("reach 9 9 9 9;link 0 1 10").blocked(0, 1, 1, 0), 1);
        T.due("just carries", Tell.gridOf("reach 9 9 9 9;link 0 1 9").blocked(0, 1, 1, 2), 1);
        T.due("no way", new FlexGrid().blocked(0, 1, 1, 2), -4);
        T.due("no way: by whom", new FlexGrid().blocked(0, 1, 1, 1), -4);
        T.due("no way: blocked", new FlexGrid().blocked(0, 1, 1, 0), 1);
        FlexGrid g = Tell.gridOf(
            "nodes 4;reach 30 30 30 30;link 0 1 10;link 1 3 10;link 1 2 10;link 2 3 10;link 0 3 31");
        T.due("of two of three ways", g.blocked(0, 3, 1, 2), 1);
        FlexGrid fan = fan(5);
        T.due("nothing in common", fan.blocked(0, 1, 1, 2), 0);
        FlexGrid last = Tell.gridOf(
            "nodes 6;link 0 1 1;link 0 2 1;link 0 3 1;link 0 4 1;link 1 2 1;link 1 3 1;link 1 4 1;"
            + "link 2 3 1;link 2 4 1;link 3 4 1;link 4 5 1");
        T.due("the last link of all", last.blocked(0, 5, 1, 2), 1 << 10);
    }

    /** The later a node's number, the shorter the way by it: each comes ahead of those so far. */
    private static void waysInAnyOrder() {
        T.says("by LENGTH in all,");
        FlexGrid g = Tell.gridOf("nodes 8;link 0 2 9;link 1 2 9;link 0 3 8;link 1 3 8;link 0 4 7;link 1 4 7;"
            + "link 0 5 6;link 1 5 6;link 0 6 5;link 1 6 5;link 0 7 4;link 1 7 4");
        int ahead = g.way(0, 2, 0, 2);
        int behind = g.way(1, 0, 0, 2);
        int[] lengths = {8, 10, 12, 14};
        for (int k = 0; k < 4; k++) {
            T.due("way " + k, g.way(0, 1, k, 0), lengths[k]);
            T.due("links of way " + k, g.way(0, 1, k, 2), 3 << 10 - 2 * k);
        }
        T.due("another pair as before", g.way(0, 2, 0, 2), ahead);
        T.due("by one link", ahead, 1);
        T.due("back as before", g.way(1, 0, 0, 2), behind);
        T.due("back by the last node", behind, 3 << 10);
    }
}
