/** Promises 18 to 24: what the grid, its links, demands and ways are, and who is in the way. */
public final class LooksTest {
    private static final Tell T = new Tell("LooksTest");
    private static final String TRIANGLE = "nodes 3;slots 10;link 0 1 30;link 1 2 30;link 0 2 90";

    private LooksTest() { }

    public static void main(String[] args) {
        theGrid();
        links();
        rowsOfLinks();
        demands();
        ways();
        waysInOrder();
        fourWaysAlone();
        findings();
        witnesses();
        blockings();
        onlyLowestWitnesses();
        T.end();
    }

    /** DEMANDS 0 on LINKS 0 and 1, 1 on LINK 0, 2 on LINK 1, 3 on LINK 2, and 4, which finds none. */
    private static FlexGrid laden() {
        FlexGrid g = Tell.gridOf(TRIANGLE);
        Tell.works(g, "ask 0 2 6 0;ask 0 1 8 0;ask 1 2 20 0;ask 0 2 9 0;ask 0 2 9 0");
        return g;
    }

    private static void theGrid() {
        FlexGrid g = laden();
        int[] want = {3, 10, 1, 3, 7, 5, 4, 1, 0, 0, 7, 16, 0, 1};
        for (int what = 0; what < want.length; what++) {
            T.due("gridIs " + what, g.gridIs(what), want[what]);
        }
        g.cut(0);
        g.drop(3);
        g.ticks(9);
        T.due("up", g.gridIs(4), 6);
        T.due("lit", g.gridIs(6), 1);
        T.due("dark", g.gridIs(8), 2);
        T.due("gone", g.gridIs(9), 1);
        T.due("top", g.gridIs(10), 7);
        T.due("used", g.gridIs(11), 5);
        T.due("clock", g.gridIs(12), 9);
        int[] none = {-1, 14, 15, 19, 24, Integer.MAX_VALUE, Integer.MIN_VALUE};
        for (int what : none) {
            T.due("gridIs " + what, g.gridIs(what), -2);
        }
    }

    private static void links() {
        FlexGrid g = laden();
        int[] want = {0, 1, 30, 1, 4, 4, 5, 2, 1666, 2, -1};
        for (int what = 0; what < want.length; what++) {
            T.due("linkIs 0 " + what, g.linkIs(0, what), want[what]);
        }
        g.cut(0);
        T.due("cut", g.linkIs(0, 3), 0);
        T.due("none used", g.linkIs(0, 4), 0);
        T.due("no top", g.linkIs(0, 5), -2);
        T.due("all free", g.linkIs(0, 6), 10);
        T.due("one row", g.linkIs(0, 7), 1);
        T.due("not torn", g.linkIs(0, 8), 0);
        T.due("none on it", g.linkIs(0, 9), 0);
        T.due("no such link", g.linkIs(3, 0), -1);
        T.due("below 0", g.linkIs(-1, 0), -1);
        T.due("what -1", g.linkIs(0, -1), -1);
        T.due("what 20", g.linkIs(0, 20), -1);
        T.due("what 85", g.linkIs(0, 85), -1);
    }

    private static void rowsOfLinks() {
        FlexGrid g = Tell.gridOf("slots 8;between 0;link 0 1 30");
        g.ask(0, 1, 32, 0);
        T.due("all used", g.linkIs(0, 4), 8);
        T.due("no row", g.linkIs(0, 6), 0);
        T.due("no rows", g.linkIs(0, 7), 0);
        T.due("no free ones", g.linkIs(0, 8), 0);
        T.due("no room", g.linkIs(0, 21), 0);
        FlexGrid h = Tell.gridOf("slots 60;between 0;link 0 1 30");
        T.due("room of 60", h.linkIs(0, 80), 1);
        T.due("room of 61", h.linkIs(0, 81), 0);
        T.due("room of 64", h.linkIs(0, 84), 0);
        T.due("room of 1", h.linkIs(0, 21), 60);
        Tell.works(h, "ask 0 1 8 0;ask 0 1 8 0;ask 0 1 8 0;drop 0;drop 2;ask 0 1 4 3");
        T.due("used", h.linkIs(0, 4), 3);
        T.due("top", h.linkIs(0, 5), 59);
        T.due("longest", h.linkIs(0, 6), 55);
        T.due("rows", h.linkIs(0, 7), 2);
        T.due("two of 57", h.linkIs(0, 8), 350);
        T.due("room of 2", h.linkIs(0, 22), 55);
        T.due("room of 3", h.linkIs(0, 23), 53);
        FlexGrid torn = Tell.gridOf("slots 8;between 0;link 0 1 30");
        Tell.works(torn, "ask 0 1 8 0;ask 0 1 4 0;ask 0 1 8 0;ask 0 1 4 0;drop 0;drop 2");
        T.due("three rows as long", torn.linkIs(0, 7), 3);
        T.due("two thirds, cut", torn.linkIs(0, 8), 6666);
    }

    private static void demands() {
        FlexGrid g = laden();
        int[] zero = {0, 2, 6, 0, 0, 2, 2, 3, 60, 2, 0, -2};
        int[] three = {0, 2, 9, 0, 0, 5, 1, 4, 90, 1, 0, -2};
        int[] four = {0, 2, 9, 1, -2, -2, -2, -2, -2, -2, -2, -2};
        for (int what = 0; what < 12; what++) {
            T.due("demandIs 0 " + what, g.demandIs(0, what), zero[what]);
            T.due("demandIs 3 " + what, g.demandIs(3, what), three[what]);
            T.due("demandIs 4 " + what, g.demandIs(4, what), four[what]);
        }
        g.lasts(1, 7);
        g.drop(0);
        T.due("how far", g.demandIs(1, 10), 3);
        T.due("it stays", g.demandIs(1, 4), 3);
        T.due("end", g.demandIs(1, 11), 7);
        T.due("gone", g.demandIs(0, 3), 3);
        T.due("its rate", g.demandIs(0, 2), 6);
        T.due("no first", g.demandIs(0, 4), -2);
        g.cut(0);
        T.due("dark, no links", g.demandIs(1, 7), -2);
        T.due("dark, an end", g.demandIs(1, 11), 7);
        g.drop(1);
        T.due("gone, no end", g.demandIs(1, 11), -2);
        T.due("what 12", g.demandIs(0, 12), -1);
        T.due("what -1", g.demandIs(0, -1), -1);
        T.due("no such one", g.demandIs(5, 0), -1);
        T.due("below 0", g.demandIs(-1, 0), -1);
    }

    private static void ways() {
        FlexGrid g = Tell.gridOf(TRIANGLE);
        int[][] want = {{60, 2, 3, 2, 2}, {90, 1, 4, 1, 2}, {-2, -2, -2, -2, 2}, {-2, -2, -2, -2, 2}};
        for (int k = 0; k < 4; k++) {
            for (int what = 0; what < 5; what++) {
                T.due("way " + k + " " + what, g.way(0, 2, k, what), want[k][what]);
            }
        }
        T.due("the other way round", g.way(2, 0, 0, 2), 3);
        T.due("with itself", g.way(1, 1, 0, 0), -1);
        T.due("no such node", g.way(0, 3, 0, 0), -1);
        T.due("below 0", g.way(-1, 0, 0, 0), -1);
        T.due("k 4", g.way(0, 2, 4, 4), -1);
        T.due("k -1", g.way(0, 2, -1, 0), -1);
        T.due("what 5", g.way(0, 2, 0, 5), -1);
        T.due("what -1", g.way(0, 2, 0, -1), -1);
        g.cut(1);
        T.due("one way less", g.way(0, 2, 0, 4), 1);
        T.due("the other one", g.way(0, 2, 0, 2), 4);
        FlexGrid far = Tell.gridOf("reach 99 98 98 97;link 0 1 99");
        T.due("just so far", far.way(0, 1, 0, 3), 0);
        FlexGrid near = Tell.gridOf("reach 99 98 98 97;link 0 1 98");
        T.due("the greatest format", near.way(0, 1, 0, 3), 2);
        FlexGrid beyond = Tell.gridOf("reach 98 98 98 98;link 0 1 99");
        T.due("no format", beyond.way(0, 1, 0, 3), -2);
        T.due("a way all the same", beyond.way(0, 1, 0, 0), 99);
        T.due("but it can't carry", beyond.ask(0, 1, 1, 0), -2);
    }

    private static void waysInOrder() {
        FlexGrid g = Tell.gridOf("nodes 4;link 2 3 10;link 0 2 10;link 1 3 10;link 0 1 10;link 0 3 20");
        int[] want = {16, 12, 3};
        for (int k = 0; k < 3; k++) {
            T.due("as long " + k, g.way(0, 3, k, 2), want[k]);
            T.due("back " + k, g.way(3, 0, k, 2), want[k]);
            T.due("length " + k, g.way(0, 3, k, 0), 20);
        }
        T.due("three of them", g.way(0, 3, 0, 4), 3);
    }

    private static void fourWaysAlone() {
        FlexGrid g = Tell.gridOf("nodes 6;link 0 1 5;link 0 2 5;link 2 1 5;link 0 3 5;link 3 1 5;link 0 4 5;"
            + "link 4 1 5;link 0 5 9;link 5 1 9");
        T.due("four", g.way(0, 1, 3, 4), 4);
        int[] want = {1, 6, 24, 96};
        for (int k = 0; k < 4; k++) {
            T.due("way " + k, g.way(0, 1, k, 2), want[k]);
        }
        g.cut(0);
        T.due("the fifth moves up", g.way(0, 1, 3, 2), 384);
    }

    private static void findings() {
        FlexGrid g = laden();
        T.due("blocked", g.found(0, 2, 9, 0, 0), -2);
        T.due("the way", g.found(0, 2, 2, 0, 0), 0);
        T.due("first", g.found(0, 2, 2, 0, 1), 9);
        T.due("width", g.found(0, 2, 2, 0, 2), 1);
        T.due("another way", g.found(0, 2, 5, 0, 0), 1);
        T.due("first there", g.found(0, 2, 5, 0, 1), 6);
        T.due("width there", g.found(0, 2, 5, 0, 2), 3);
        T.due("from above there", g.found(0, 2, 5, 3, 1), 7);
        T.due("nothing comes of it", g.gridIs(5), 5);
        T.due("with itself", g.found(0, 0, 1, 0, 0), -1);
        T.due("no such node", g.found(3, 0, 1, 0, 0), -1);
        T.due("rate 0", g.found(0, 1, 0, 0, 0), -1);
        T.due("rate 65", g.found(0, 1, 65, 0, 0), -1);
        T.due("rule 4", g.found(0, 1, 1, 4, 0), -1);
        T.due("rule -1", g.found(0, 1, 1, -1, 0), -1);
        T.due("what 3", g.found(0, 1, 1, 0, 3), -1);
        T.due("what -1", g.found(0, 1, 1, 0, -1), -1);
    }

    private static void witnesses() {
        FlexGrid g = laden();
        int[] want = {0, 0, 0, 1, 1, 1, 2, 2, -3, -3};
        for (int slot = 0; slot < 10; slot++) {
            T.due("witness at " + slot, g.witness(0, 2, 9, 0, slot), want[slot]);
        }
        T.due("on the other way", g.witness(0, 2, 9, 1, 5), 3);
        T.due("beyond there", g.witness(0, 2, 9, 1, 6), -3);
        T.due("it fits", g.witness(0, 2, 5, 1, 6), -2);
        T.due("no such way", g.witness(0, 2, 9, 2, 0), -4);
        T.due("no such way, whatever slot", g.witness(0, 2, 9, 3, 9), -4);
        T.due("no such slot", g.witness(0, 2, 9, 0, 10), -1);
        T.due("below 0", g.witness(0, 2, 9, 0, -1), -1);
        T.due("k 4", g.witness(0, 2, 9, 4, 0), -1);
        T.due("k -1", g.witness(0, 2, 9, -1, 0), -1);
        T.due("rate 0", g.witness(0, 2, 0, 0, 0), -1);
        T.due("rate 65", g.witness(0, 2, 65, 0, 0), -1);
        T.due("with itself", g.witness(2, 2, 9, 0, 0), -1);
        g.drop(0);
        T.due("the next one", g.witness(0, 2, 9, 0, 2), 1);
        FlexGrid line = Tell.gridOf("slots 20;link 0 1 30");
        Tell.works(line, "ask 0 1 8 0;jump 0 10");
        T.due("one between below", line.witness(0, 1, 8, 0, 7), -2);
        T.due("too near below", line.witness(0, 1, 8, 0, 8), 0);
        T.due("too near above", line.witness(0, 1, 8, 0, 12), 0);
        T.due("one between above", line.witness(0, 1, 8, 0, 13), -2);
        FlexGrid far = Tell.gridOf("reach 9 9 9 9;link 0 1 10");
        T.due("can't carry", far.witness(0, 1, 1, 0, 0), -4);
    }

    private static void blockings() {
        FlexGrid g = laden();
        T.due("blocked", g.blocked(0, 2, 9, 0), 1);
        T.due("by four", g.blocked(0, 2, 9, 1), 4);
        T.due("no link of all ways", g.blocked(0, 2, 9, 2), 0);
        T.due("not blocked", g.blocked(0, 2, 2, 0), 0);
        T.due("one way alone", shared("nodes 3;link 0 1 9;link 1 2 9"), 3);
        T.due("two ways, one link", shared("nodes 4;link 0 1 9;link 1 2 9;link 1 3 9;link 3 2 9"), 1);
        T.due("ways that can't carry count not", shared("nodes 3;reach 20 0 0 0;link 0 1 9;link 1 2 9;link 0 2 99"),
            3);
        FlexGrid far = Tell.gridOf("reach 9 9 9 9;link 0 1 10");
        T.due("can't carry: blocked", far.blocked(0, 1, 1, 0), 1);
        T.due("can't carry: by whom", far.blocked(0, 1, 1, 1), -4);
        T.due("can't carry: links", far.blocked(0, 1, 1, 2), -4);
        FlexGrid small = Tell.gridOf("slots 8;link 0 1 10");
        T.due("too wide", small.blocked(0, 1, 64, 0), 1);
        T.due("by nobody", small.blocked(0, 1, 64, 1), 0);
        T.due("with itself", g.blocked(1, 1, 1, 0), -1);
        T.due("no such node", g.blocked(1, 3, 1, 0), -1);
        T.due("rate 0", g.blocked(0, 1, 0, 0), -1);
        T.due("rate 65", g.blocked(0, 1, 65, 0), -1);
        T.due("what 3", g.blocked(0, 1, 1, 3), -1);
        T.due("what -1", g.blocked(0, 1, 1, -1), -1);
    }

    private static int shared(String text) {
        return Tell.gridOf(text).blocked(0, 2, 1, 2);
    }

    private static void onlyLowestWitnesses() {
        FlexGrid g = Tell.gridOf("slots 8;between 2;link 0 1 30");
        Tell.works(g, "ask 0 1 4 0;ask 0 1 4 0;ask 0 1 4 0");
        T.due("the third stands", g.demandIs(2, 4), 6);
        T.due("blocked", g.blocked(0, 1, 12, 0), 1);
        T.due("the third is the lowest nowhere", g.blocked(0, 1, 12, 1), 2);
        FlexGrid open = Tell.gridOf("slots 20;link 0 1 30");
        Tell.works(open, "ask 0 1 8 0;ask 0 1 8 3");
        T.due("windows are left", open.blocked(0, 1, 8, 0), 0);
        T.due("witnesses all the same", open.blocked(0, 1, 8, 1), 2);
    }
}
