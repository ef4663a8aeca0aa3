/** The bounds of SLIDE, SWEEP, JUMP, CUT, RELIGHT, TOP, REPACK, PLAN, UNRAVELLED, TORN and ROOM. */
public final class BoundsOfMovesTest {
    private static final Tell T = new Tell("BoundsOfMovesTest");
    private static final String LINE = "slots 20;link 0 1 30";
    private static final String TRIANGLE = "nodes 3;slots 10;link 0 1 30;link 1 2 30;link 0 2 90";
    /** Five ways from 0 to 1, of which the fifth is by LINKS 7 and 8. */
    private static final String FIVE_WAYS = "nodes 6;slots 8;between 1;link 0 1 5;link 0 2 5;link 2 1 5;link 0 3 5;"
        + "link 3 1 5;link 0 4 5;link 4 1 5;link 0 5 9;link 5 1 9";

    private BoundsOfMovesTest() { }

    public static void main(String[] args) {
        asksBehindAll();
        drops();
        slides();
        slidesNeverOver();
        slidesOnAllLinks();
        sweeps();
        sweepsOfForty();
        jumpsToTheEnds();
        jumpsBesideItself();
        jumpsBesideOthers();
        cuts();
        mends();
        relights();
        relightsOfForty();
        tops();
        torn();
        room();
        rowsOfFreeSlots();
        emptyRepacks();
        targetsByNumber();
        staysIfItFits();
        takesItsSlotsThere();
        movesThatAreNone();
        waitsIfTooNear();
        waitsForAllOthers();
        plansTheLowestAgain();
        plansOfForty();
        goesRound();
        parksWhereItJustFits();
        parksTheLowestThatCan();
        parksEachOnce();
        parksOneByOne();
        parksInTheWay();
        T.end();
    }

    private static void repackIs(FlexGrid g, int rule, int... want) {
        for (int what = 0; what < want.length; what++) {
            T.due("repack " + rule + " " + what, g.repack(rule, what), want[what]);
        }
    }

    private static void unravelIs(FlexGrid g, int rule, int... want) {
        for (int what = 0; what < want.length; what++) {
            T.due("unravel " + rule + " " + what, g.unravel(rule, what), want[what]);
        }
    }

    /** Forty demands of one slot each, side by side from a slot on. */
    private static FlexGrid forty(int from) {
        FlexGrid g = Tell.gridOf("slots 60;between 0;link 0 1 30");
        for (int i = 0; i < 40; i++) {
            g.ask(0, 1, 4, 0);
        }
        for (int i = 39; i >= 0 && from > 0; i--) {
            g.jump(i, i + from);
        }
        return g;
    }

    private static void asksBehindAll() {
        T.says("ASK: a DEMAND comes behind all: LIT by the RULE, or BLOCKED.");
        FlexGrid g = Tell.gridOf("slots 8;link 0 1 30");
        T.due("the first", g.ask(0, 1, 32, 0), 0);
        T.due("blocked", g.ask(1, 0, 1, 0), -2);
        T.due("as number 1", g.demandIs(1, 3), 1);
        T.due("its nodes", g.demandIs(1, 0), 1);
        T.due("its rate", g.demandIs(1, 2), 1);
        g.drop(0);
        T.due("behind the gone and the blocked", g.ask(0, 1, 32, 0), 2);
        T.due("the blocked one stays so", g.demandIs(1, 3), 1);
    }

    private static void drops() {
        T.says("DROP: it is GONE.");
        FlexGrid g = Tell.gridWith("slots 8;link 0 1 30", "ask 0 1 32 0;ask 0 1 1 0;drop 0;ask 0 1 1 0;cut 0");
        T.due("gone already", g.drop(0), false);
        T.due("blocked", g.drop(1), true);
        T.due("dark", g.drop(2), true);
        T.due("all are gone", g.gridIs(9), 3);
        T.due("none behind", g.drop(3), false);
        T.due("none ahead", g.drop(-1), false);
        g.mend(0);
        T.due("gone ones are not lit again", g.relight(0), 0);
        FlexGrid dark = Tell.gridWith(TRIANGLE, "ask 0 2 6 0;lasts 0 9;cut 0;ask 1 2 8 0;ask 1 2 4 0;mend 0");
        dark.keep();
        T.due("dark, another has its slots", dark.drop(0), true);
        T.due("they stay used", dark.linkIs(1, 4), 3);
        T.due("and in the way", dark.found(1, 2, 4, 0, 1), 5);
        dark.undo();
        T.due("its end", dark.ticks(9), 1);
        T.due("they stay used, too", dark.linkIs(1, 4), 3);
        T.due("two on the second link", dark.linkIs(1, 9), 2);
        T.due("on an empty grid", new FlexGrid().drop(0), false);
        FlexGrid full = forty(0);
        T.due("the last of forty", full.drop(39), true);
        T.due("no 41st", full.drop(40), false);
    }

    private static void slides() {
        T.says("its FIRST becomes the lowest slot s such that for each slot from s to its FIRST the WINDOW");
        for (int free = 0; free <= 4; free++) {
            FlexGrid g = Tell.gridWith("slots 20;between " + free + ";link 0 1 30", "ask 0 1 8 0;ask 0 1 8 3");
            T.due("how far", g.demandIs(1, 10), 18 - 2 - free);
            T.due("down to the other", g.slide(1), 18 - 2 - free);
            T.due("so many between", g.demandIs(1, 4), 2 + free);
            T.due("no further", g.slide(1), 0);
            T.due("at 0", g.slide(0), 0);
        }
        FlexGrid one = Tell.gridWith(LINE, "ask 0 1 4 0;jump 0 1");
        T.due("by one", one.slide(0), 1);
        T.due("it moved by one", one.demandIs(0, 4), 0);
        FlexGrid g = Tell.gridWith("slots 60;link 0 1 30", "ask 0 1 4 3");
        T.due("from the last to 0", g.slide(0), 59);
        T.due("it is at 0", g.demandIs(0, 4), 0);
    }

    private static void slidesNeverOver() {
        T.says("(it never jumps over another one).");
        FlexGrid g = Tell.gridWith("slots 20;between 0;link 0 1 30", "ask 0 1 8 3;ask 0 1 4 3;jump 1 10");
        T.due("not over it", g.slide(0), 7);
        T.due("beside it", g.demandIs(0, 4), 11);
        T.due("the room below is wide", g.found(0, 1, 40, 0, 1), 0);
        T.due("the lower one slides", g.slide(1), 10);
        T.due("then the upper one", g.slide(0), 10);
    }

    private static void slidesOnAllLinks() {
        T.says("WINDOW that begins there FITS");
        FlexGrid g = Tell.gridWith(TRIANGLE, "ask 0 1 4 0;ask 1 2 12 0;ask 0 2 6 3");
        T.due("as far as the higher of both", g.slide(2), 8 - 4);
        g.drop(1);
        T.due("as far as the other", g.slide(2), 2);
        g.drop(0);
        T.due("to the bottom", g.slide(2), 2);
    }

    private static void sweeps() {
        T.says(
            "SWEEP: LIT DEMANDS, by FIRST, of like ones by number (as all was ahead of the SWEEP), SLIDE, each once.");
        T.due("none", new FlexGrid().sweep(), 0);
        T.due("none at all", new FlexGrid().sweeps(), 0);
        FlexGrid g = Tell.gridWith(LINE, "ask 0 1 8 3;ask 0 1 8 3;ask 0 1 8 3;ask 0 1 64 0");
        T.due("the highest has the lowest number", Tell.check(g, 18, 15, 12, 255), -1);
        g.keep();
        T.due("three", g.sweep(), 3);
        T.due("pushed together", Tell.check(g, 6, 3, 0, 255), -1);
        T.due("none moves then", g.sweep(), 0);
        g.undo();
        T.says("SWEEPS: till a SWEEP moves none.");
        T.due("one that moved some", g.sweeps(), 1);
        T.due("pushed together, too", Tell.check(g, 6, 3, 0, 255), -1);
        T.due("no more", g.sweeps(), 0);
        g.drop(1);
        T.due("one of two", g.sweep(), 1);
        T.due("pulled down", Tell.check(g, 3, 255, 0, 255), -1);
        FlexGrid one = Tell.gridWith(LINE, "ask 0 1 4 0;jump 0 1");
        one.keep();
        T.due("one by one slot", one.sweep(), 1);
        T.due("it moved", one.demandIs(0, 4), 0);
        one.undo();
        T.due("one sweep that moved one", one.sweeps(), 1);
        T.due("it moved, too", one.demandIs(0, 4), 0);
    }

    private static void sweepsOfForty() {
        T.says("SWEEP: how many DEMANDS moved.");
        FlexGrid g = forty(20);
        T.due("the last is the highest slot", g.gridIs(10), 59);
        T.due("forty", g.sweep(), 40);
        T.due("the highest slot", g.gridIs(10), 39);
        T.due("none", g.sweeps(), 0);
        FlexGrid full = Tell.gridWith("slots 8;between 0;link 0 1 30", "ask 0 1 32 0");
        T.due("a full link", full.sweep(), 0);
        FlexGrid dark = Tell.gridWith(LINE, "ask 0 1 8 3;cut 0");
        T.due("dark ones", dark.sweep(), 0);
    }

    private static void jumpsToTheEnds() {
        T.says("-1000: no such ones, not LIT, it would go beyond the last slot;");
        FlexGrid g = Tell.gridWith("slots 60;link 0 1 30", "ask 0 1 8 0");
        T.due("to the last", g.jump(0, 58), -58);
        T.due("one beyond", g.jump(0, 59), -1000);
        T.due("no such slot", g.jump(0, 60), -1000);
        T.due("below 0", g.jump(0, -1), -1000);
        T.due("far beyond", g.jump(0, Integer.MAX_VALUE), -1000);
        T.due("far below", g.jump(0, Integer.MIN_VALUE), -1000);
        T.due("it stays", g.demandIs(0, 4), 58);
        T.due("to 0", g.jump(0, 0), 58);
        T.due("no such demand", g.jump(1, 9), -1000);
        T.due("none below 0", g.jump(-1, 9), -1000);
        T.due("none so far", g.jump(Integer.MAX_VALUE, 9), -1000);
        FlexGrid states = Tell.gridWith(LINE, "ask 0 1 64 0;ask 0 1 64 0;ask 0 1 4 0;drop 2;cut 0");
        T.due("dark", states.jump(0, 0), -1000);
        T.due("blocked", states.jump(1, 0), -1000);
        T.due("gone", states.jump(2, 0), -1000);
        T.due("on an empty grid", new FlexGrid().jump(0, 0), -1000);
    }

    private static void jumpsBesideItself() {
        T.says("the WINDOW there FITS, and shares no slot with its own one now.");
        FlexGrid g = Tell.gridWith("slots 20;between 4;link 0 1 30", "ask 0 1 12 0;jump 0 8");
        int[] shares = {6, 7, 8, 9, 10};
        for (int slot : shares) {
            T.due("shares at " + slot, g.jump(0, slot), -1001);
        }
        T.due("side by side above", g.jump(0, 11), -3);
        T.due("side by side below", g.jump(0, 8), 3);
        T.due("side by side below once more", g.jump(0, 5), 3);
        FlexGrid one = Tell.gridWith(LINE, "ask 0 1 4 0");
        T.due("where it is", one.jump(0, 0), -1001);
        T.due("the next slot", one.jump(0, 1), -1);
        FlexGrid all = Tell.gridWith("slots 8;link 0 1 30", "ask 0 1 32 0");
        T.due("all slots: where it is", all.jump(0, 0), -1001);
        T.due("all slots: beyond", all.jump(0, 1), -1000);
    }

    private static void jumpsBesideOthers() {
        T.says("-1001: it does not FIT, or shares a slot.");
        for (int free = 0; free <= 4; free++) {
            String grid = "slots 40;between " + free + ";link 0 1 30";
            int[] near = {20 - free - 2, 22 + free};
            int[] tooNear = {20 - free - 1, 22 + free - 1};
            for (int i = 0; i < 2; i++) {
                FlexGrid g = Tell.gridWith(grid, "ask 0 1 8 0;jump 0 20;ask 0 1 8 0");
                T.due("too near", g.jump(1, tooNear[i]), -1001);
                T.due("it stays", g.demandIs(1, 4), 0);
                T.due("just apart", g.jump(1, near[i]), -near[i]);
            }
        }
        FlexGrid g = Tell.gridWith(TRIANGLE, "ask 0 2 6 0;ask 1 2 8 0;jump 1 5");
        T.due("not on one of its links", g.jump(0, 4), -1001);
        T.due("over the other", g.jump(0, 8), -8);
    }

    private static void cuts() {
        T.says("CUT of a LINK that is up: all LIT DEMANDS that have it are DARK.");
        FlexGrid g = Tell.gridWith(TRIANGLE, "ask 0 1 8 0;ask 0 2 6 0;ask 1 2 4 0;ask 0 1 64 0;ask 0 1 4 0;drop 4");
        T.due("two of them", g.cut(0), 2);
        int[] states = {2, 2, 0, 1, 3};
        for (int i = 0; i < states.length; i++) {
            T.due("state of " + i, g.demandIs(i, 3), states[i]);
        }
        T.due("is cut", g.cut(0), -2);
        T.due("dark ones do not darken again", g.cut(1), 1);
        T.due("none on it", g.cut(2), 0);
        T.due("none is up", g.gridIs(4), 0);
        T.due("no such one", g.cut(3), -1);
        T.due("none below 0", g.cut(-1), -1);
        T.due("none of an empty grid", new FlexGrid().cut(0), -1);
        T.due("forty", forty(0).cut(0), 40);
    }

    private static void mends() {
        T.says("MEND: true; false: no such LINK, it is up.");
        FlexGrid g = Tell.gridWith(TRIANGLE, "cut 0;cut 2");
        T.due("the first", g.mend(0), true);
        T.due("it is up", g.mend(0), false);
        T.due("it was up", g.mend(1), false);
        T.due("the last", g.mend(2), true);
        T.due("no such one", g.mend(3), false);
        T.due("none below 0", g.mend(-1), false);
        T.due("none so far", g.mend(32), false);
        T.due("all up", g.gridIs(4), 7);
        T.due("none of an empty grid", new FlexGrid().mend(0), false);
    }

    private static void relights() {
        T.says("RELIGHT: DARK DEMANDS, by number, are found a WINDOW anew by a RULE; who finds none stays DARK.");
        FlexGrid g = Tell.gridWith("slots 8;link 0 1 30",
            "ask 0 1 16 0;cut 0;mend 0;ask 0 1 8 0;cut 0;mend 0;ask 0 1 12 0");
        // 0 needs four slots, 1 two, and 2 stands on the lowest three
        T.due("the lower number alone", g.relight(0), 1);
        T.due("it is lit", g.demandIs(0, 4), 4);
        T.due("the other stays dark", g.demandIs(1, 3), 2);
        T.due("none", g.relight(0), 0);
        g.drop(2);
        T.due("now there is room", g.relight(3), 1);
        T.due("highest below the other", g.demandIs(1, 4), 1);
        T.due("none is left", g.relight(0), 0);
        T.due("of an empty grid", new FlexGrid().relight(3), 0);
        FlexGrid states = Tell.gridWith(LINE, "ask 0 1 64 0;ask 0 1 64 0;drop 0");
        T.due("blocked ones stay so", states.relight(0), 0);
        T.due("blocked", states.demandIs(1, 3), 1);
    }

    private static void relightsOfForty() {
        T.says("RELIGHT: how many are LIT again; NONE: no such RULE.");
        FlexGrid g = forty(20);
        g.cut(0);
        T.due("no way", g.relight(0), 0);
        g.mend(0);
        T.due("rule 4", g.relight(4), -1);
        T.due("rule -1", g.relight(-1), -1);
        T.due("dark all of them", g.gridIs(8), 40);
        T.due("forty", g.relight(3), 40);
        T.due("from above", g.demandIs(39, 4), 20);
    }

    private static void tops() {
        T.says("TOP: the highest slot used on any LINK by a LIT DEMAND (none: -1).");
        FlexGrid g = Tell.gridOf("nodes 3;slots 60;link 0 1 30;link 1 2 30");
        T.due("none", g.gridIs(10), -1);
        g.ask(0, 1, 1, 0);
        T.due("slot 0", g.gridIs(10), 0);
        T.due("slot 0 of its link", g.linkIs(0, 5), 0);
        T.due("none of the other", g.linkIs(1, 5), -2);
        g.ask(1, 2, 1, 3);
        T.due("slot 59", g.gridIs(10), 59);
        T.due("slot 59 of its link", g.linkIs(1, 5), 59);
        g.cut(1);
        T.due("dark ones use none", g.gridIs(10), 0);
        g.drop(0);
        T.due("none again", g.gridIs(10), -1);
        T.due("no link", new FlexGrid().gridIs(10), -1);
    }

    private static void torn() {
        T.says("those that are not in the longest row of free ones, in ten-thousandths (cut; 0 without free ones).");
        FlexGrid g = Tell.gridOf("slots 8;between 0;link 0 1 30");
        T.due("all free", g.linkIs(0, 8), 0);
        g.ask(0, 1, 4, 0);
        T.due("one row", g.linkIs(0, 8), 0);
        g.jump(0, 1);
        T.due("one of seven", g.linkIs(0, 8), 1428);
        g.jump(0, 3);
        T.due("three of seven", g.linkIs(0, 8), 4285);
        g.jump(0, 4);
        T.due("three of seven above", g.linkIs(0, 8), 4285);
        g.ask(0, 1, 16, 0);
        g.ask(0, 1, 12, 0);
        T.due("all but none used", g.linkIs(0, 4), 8);
        T.due("no free ones", g.linkIs(0, 8), 0);
        g.drop(0);
        T.due("one free", g.linkIs(0, 8), 0);
        FlexGrid comb = Tell.gridOf("slots 60;between 0;link 0 1 30");
        for (int i = 0; i < 30; i++) {
            comb.ask(0, 1, 4, 0);
        }
        for (int i = 29; i >= 0; i--) {
            comb.jump(i, 2 * i + 1);
        }
        T.due("thirty rows of one", comb.linkIs(0, 8), 9666);
        T.due("so many rows", comb.linkIs(0, 7), 30);
    }

    private static void room() {
        T.says("ROOM of a width on a LINK: in how many places a row of so many free ones can begin.");
        for (int m = 8; m <= 60; m += 26) {
            FlexGrid g = Tell.gridOf("slots " + m + ";link 0 1 30");
            for (int w = 1; w <= 64; w++) {
                T.due("of " + w + " on " + m, g.linkIs(0, 20 + w), Math.max(0, m - w + 1));
            }
            T.due("of 0", g.linkIs(0, 20), -1);
            T.due("of 65", g.linkIs(0, 85), -1);
            g.ask(0, 1, 4, 3);
            T.due("but the last", g.linkIs(0, 20 + m - 1), 1);
            T.due("no longer all", g.linkIs(0, 20 + m), 0);
        }
        FlexGrid g = Tell.gridWith("slots 10;between 3;link 0 1 30", "ask 0 1 4 0;jump 0 4");
        T.due("four below, five above, BETWEEN not looked at", g.linkIs(0, 24), 1 + 2);
        T.due("above alone", g.linkIs(0, 25), 1);
        T.due("nowhere", g.linkIs(0, 26), 0);
        FlexGrid full = Tell.gridWith("slots 8;link 0 1 30", "ask 0 1 32 0");
        T.due("full", full.linkIs(0, 21), 0);
        full.cut(0);
        T.due("cut", full.linkIs(0, 28), 1);
    }

    private static void rowsOfFreeSlots() {
        T.says("6 the longest row of free slots, 7 how many such rows,");
        FlexGrid g = Tell.gridOf("slots 60;between 0;link 0 1 30");
        T.due("all", g.linkIs(0, 6), 60);
        T.due("one", g.linkIs(0, 7), 1);
        Tell.works(g, "ask 0 1 4 0;ask 0 1 4 3");
        T.due("between both", g.linkIs(0, 6), 58);
        T.due("one still", g.linkIs(0, 7), 1);
        Tell.works(g, "jump 0 20;jump 1 40");
        T.due("the first of three", g.linkIs(0, 6), 20);
        T.due("three", g.linkIs(0, 7), 3);
        g.jump(1, 59);
        T.due("the last of two", g.linkIs(0, 6), 38);
        T.due("two", g.linkIs(0, 7), 2);
        T.due("two on it", g.linkIs(0, 9), 2);
        FlexGrid full = Tell.gridWith("slots 8;link 0 1 30", "ask 0 1 32 0");
        T.due("no row", full.linkIs(0, 6), 0);
        T.due("none", full.linkIs(0, 7), 0);
    }

    private static void emptyRepacks() {
        T.says("REPACK by a RULE, what 0 TOP of TARGETS (with those that stay), 1 MOVES, 2 moves of the PLAN,");
        FlexGrid none = new FlexGrid();
        FlexGrid unlit = Tell.gridWith(LINE, "ask 0 1 64 0;ask 0 1 64 0;ask 0 1 4 0;drop 2;cut 0");
        for (int rule = 0; rule < 4; rule++) {
            repackIs(none, rule, -1, 0, 0, 0, -1, 0);
            repackIs(unlit, rule, -1, 0, 0, 0, -1, 0);
            unravelIs(none, rule, 0, 0, 0, -1);
            unravelIs(unlit, rule, 0, 0, 0, -1);
            T.due("no move 0", unlit.planned(rule, 0, 0), -4);
            T.due("a dark one is no move", unlit.waits(rule, 0), -4);
            T.due("a blocked one is no move", unlit.waits(rule, 1), -4);
            T.due("a gone one is no move", unlit.waits(rule, 2), -4);
            T.due("nothing to do", unlit.plan(rule), 0);
        }
    }

    private static void targetsByNumber() {
        T.says("on an empty GRID (LINKS cut as they are) all LIT DEMANDS, by number, are found a WINDOW by the RULE:");
        FlexGrid g = Tell.gridWith("slots 20;between 0;link 0 1 30", "ask 0 1 16 3;ask 0 1 8 0;ask 0 1 4 0;drop 1");
        // the empty grid: 0 is first at its bottom, 2 behind it
        repackIs(g, 0, 4, 2, 2, 0, 4, 0);
        T.due("0 waits for 2", g.waits(0, 0), 1);
        T.due("2 first", g.planned(0, 0, 0), 2);
        T.due("to 4", g.planned(0, 0, 1), 4);
        FlexGrid ways = Tell.gridWith(TRIANGLE, "cut 0;ask 0 2 6 0");
        T.due("cut as they are: no move", ways.repack(0, 1), 0);
        ways.mend(0);
        T.due("mended: a move", ways.repack(0, 1), 1);
        T.due("to both links", ways.planned(0, 0, 2), 3);
    }

    /** DEMAND 0 is to go from 7 to 0 on LINK 7; DEMAND 5 is on the fifth way from 0 to 1, on LINKS 7 and 8. */
    private static FlexGrid onTheFifthWay(String jumps) {
        return Tell.gridWith(FIVE_WAYS, "ask 0 5 4 0;jump 0 7;ask 0 1 32 0;ask 0 2 32 0;ask 0 3 32 0;ask 0 4 32 0",
            "cut 2;ask 0 1 8 0;mend 2" + jumps);
    }

    private static void staysIfItFits() {
        T.says("(and takes its slots there, too, if it FITS with TARGETS so far; else the REPACK is spoiled).");
        FlexGrid apart = onTheFifthWay(";jump 5 2");
        T.due("on the fifth way", apart.demandIs(5, 7), 384);
        T.due("no window on the four", apart.found(0, 1, 8, 0, 0), -2);
        repackIs(apart, 0, 7, 1, 1, 0, 7, 0);
        T.due("it is no move", apart.waits(0, 5), -4);
        T.due("0 moves", apart.plan(0), 1);
        T.due("and it stays", apart.demandIs(5, 4), 2);
        FlexGrid near = onTheFifthWay(";jump 5 3;jump 5 1");
        T.due("it is nearer", near.demandIs(5, 4), 1);
        repackIs(near, 0, -2, -2, -2, -2, -2, -2);
        T.due("planned", near.planned(0, 0, 0), -2);
        T.due("waits", near.waits(0, 0), -2);
        T.due("unravel", near.unravel(0, 0), -2);
        T.due("plan", near.plan(0), -2);
        T.due("nothing moved", near.demandIs(0, 4), 7);
        FlexGrid upon = onTheFifthWay("");
        T.due("upon it", upon.repack(0, 0), -2);
        T.due("by another rule it is not", upon.repack(3, 1), 0);
    }

    private static void takesItsSlotsThere() {
        T.says("it has none if it finds none, then it stays where it is");
        FlexGrid g = onTheFifthWay(";jump 5 2;ask 0 5 4 0");
        T.due("beneath it", g.demandIs(6, 4), 0);
        repackIs(g, 0, 7, 2, 2, 0, 7, 0);
        T.due("0 waits for 6", g.waits(0, 0), 1);
        T.due("6 goes first", g.planned(0, 0, 0), 6);
        T.due("above the one that stays", g.planned(0, 0, 1), 5);
        T.due("then 0", g.planned(0, 1, 0), 0);
        T.due("to the bottom", g.planned(0, 1, 1), 0);
    }

    private static void movesThatAreNone() {
        T.says("MOVES: DEMANDS whose TARGET is not as they are.");
        FlexGrid g = Tell.gridWith(LINE, "ask 0 1 8 0;ask 0 1 8 0");
        T.due("none", g.repack(0, 1), 0);
        T.due("no move", g.waits(0, 0), -4);
        T.due("both by rule 3", g.repack(3, 1), 2);
        FlexGrid way = Tell.gridWith("nodes 3;slots 10;link 0 1 20;link 1 2 20;link 0 2 40",
            "cut 2;ask 0 2 8 0;mend 2");
        T.due("the same slots on another way", way.repack(0, 1), 1);
        T.due("the same slots", way.planned(0, 0, 1), 0);
        T.due("by fewer links", way.planned(0, 0, 2), 4);
        T.due("it waits for none", way.waits(0, 0), 0);
    }

    private static void waitsIfTooNear() {
        T.says("One WAITS for another one (of all other LIT ones), if its TARGET does not FIT for that one's slots");
        for (int free = 0; free <= 4; free++) {
            String grid = "slots 30;between " + free + ";link 0 1 30";
            int below = 2 + free;
            FlexGrid low = Tell.gridWith(grid, "ask 0 1 8 0;jump 0 28;ask 0 1 8 0;jump 1 12;jump 1 " + below);
            T.due("just apart", low.waits(0, 0), 0);
            FlexGrid near = Tell.gridWith(grid, "ask 0 1 8 0;jump 0 28;ask 0 1 8 0;jump 1 12;jump 1 " + (below - 1));
            T.due("one less", near.waits(0, 0), 1);
            int above = 28 - free - 2;
            FlexGrid high = Tell.gridWith(grid, "ask 0 1 8 0;ask 0 1 8 3;jump 1 18;jump 1 " + above);
            T.due("just apart above", high.waits(3, 0), 0);
            FlexGrid nearHigh = Tell.gridWith(grid, "ask 0 1 8 0;ask 0 1 8 3;jump 1 18;jump 1 " + (above + 1));
            T.due("one less above", nearHigh.waits(3, 0), 1);
        }
    }

    private static void waitsForAllOthers() {
        T.says("DEMANDS (how many) for which a DEMAND's MOVE by a RULE WAITS ahead of all moves;");
        FlexGrid g = Tell.gridWith("slots 20;between 0;link 0 1 30",
            "ask 0 1 16 3;ask 0 1 4 0;ask 0 1 4 0;ask 0 1 4 0;ask 0 1 4 0;ask 0 1 4 0");
        T.due("four on its target", g.waits(0, 0), 4);
        T.due("not for itself", Tell.gridWith("slots 8;link 0 1 30", "ask 0 1 16 0;slide 0;jump 0 4").waits(0, 0), 0);
        FlexGrid self = Tell.gridWith("slots 8;link 0 1 30", "ask 0 1 20 3");
        T.due("though its target shares its own slots", self.waits(0, 0), 0);
        T.due("it is done", self.plan(0), 1);
        T.due("at 0", self.demandIs(0, 4), 0);
        g.drop(2);
        T.due("gone ones count not", g.waits(0, 0), 3);
    }

    private static void plansTheLowestAgain() {
        T.says("the lowest MOVE not done that WAITS for none (those done stand at their TARGETS) is done.");
        FlexGrid g = Tell.gridWith("slots 20;between 0;link 0 1 30",
            "ask 0 1 8 0;ask 0 1 8 0;ask 0 1 8 0;jump 0 6;jump 1 0;jump 2 10");
        int[] order = {1, 0, 2};
        int[] firsts = {2, 0, 4};
        for (int i = 0; i < 3; i++) {
            T.due("move " + i, g.planned(0, i, 0), order[i]);
            T.due("to " + i, g.planned(0, i, 1), firsts[i]);
            T.due("on its link " + i, g.planned(0, i, 2), 1);
        }
        T.due("no fourth", g.planned(0, 3, 0), -4);
        T.due("three", g.plan(0), 3);
        T.due("all at their targets", Tell.check(g, 0, 2, 4), -1);
    }

    private static void plansOfForty() {
        T.says("Move i of the PLAN by a RULE, what 0 DEMAND, 1 FIRST of its TARGET, 2 LINKS of it (bits);");
        FlexGrid g = forty(1);
        repackIs(g, 0, 39, 40, 40, 0, 39, 0);
        T.due("the last move", g.planned(0, 39, 0), 39);
        T.due("no 41st", g.planned(0, 40, 0), -4);
        T.due("none so far", g.planned(0, Integer.MAX_VALUE, 0), -4);
        T.due("none below 0", g.planned(0, -1, 0), -1);
        T.due("the last waits for the one below", g.waits(0, 39), 1);
        unravelIs(g, 0, 0, 40, 0, 39);
        T.due("forty", g.plan(0), 40);
    }

    private static void goesRound() {
        T.says("What is left goes ROUND, or WAITS for such.");
        FlexGrid two = Tell.gridWith("slots 12;between 0;link 0 1 30", "ask 0 1 16 0;ask 0 1 16 0;jump 1 8;jump 0 4");
        repackIs(two, 3, 11, 2, 0, 2, 11, 2);
        FlexGrid three = Tell.gridWith("slots 12;between 0;link 0 1 30", "ask 0 1 16 0;ask 0 1 16 0;jump 1 8;jump 0 4",
            "ask 0 1 16 0");
        // 2 is at 0, and its target, too
        repackIs(three, 3, 11, 2, 0, 2, 11, 2);
        FlexGrid ring = Tell.gridWith("slots 16;between 0;link 0 1 30", "ask 0 1 16 0;ask 0 1 16 0;ask 0 1 16 0",
            "jump 2 12;jump 0 8");
        // at 8, 4 and 12, to go to 12, 8 and 4
        repackIs(ring, 3, 15, 3, 0, 3, 15, 3);
        unravelIs(ring, 3, 1, 3, 0, 15);
        FlexGrid behind = Tell.gridWith("slots 12;between 0;link 0 1 30",
            "ask 0 1 16 3;jump 0 3;ask 0 1 16 3;ask 0 1 8 0");
        T.due("one waits for the ring, but is not in it", behind.repack(3, 5), 2);
        T.due("all three are left", behind.repack(3, 3), 3);
        T.due("none is done", behind.plan(3), 0);
    }

    private static void parksWhereItJustFits() {
        T.says("is PARKED there; then as before; till there is none.");
        FlexGrid fits = Tell.gridWith("slots 12;between 0;link 0 1 30", "ask 0 1 16 0;ask 0 1 16 0;jump 1 8;jump 0 4");
        unravelIs(fits, 3, 1, 2, 0, 11);
        FlexGrid not = Tell.gridWith("slots 11;between 0;link 0 1 30", "ask 0 1 16 3;ask 0 1 16 3");
        // targets by rule 0 are 0 and 4; they stand at 7 and 3
        T.due("where they stand", Tell.check(not, 7, 3), -1);
        repackIs(not, 0, 7, 2, 0, 2, 10, 2);
        unravelIs(not, 0, 0, 0, 2, 10);
        FlexGrid wide = Tell.gridWith("slots 12;between 0;link 0 1 30", "ask 0 1 16 3;ask 0 1 16 3");
        // 1 is at its target already
        unravelIs(wide, 0, 0, 1, 0, 7);
    }

    private static void parksTheLowestThatCan() {
        T.says("the lowest DEMAND of these that was not PARKED yet and can JUMP to a slot");
        FlexGrid g = Tell.gridWith("slots 10;between 0;link 0 1 30",
            "ask 0 1 24 3;ask 0 1 8 3;jump 1 0;slide 0;jump 1 8");
        T.due("where they stand", Tell.check(g, 2, 8), -1);
        repackIs(g, 3, 9, 2, 0, 2, 9, 2);
        unravelIs(g, 3, 1, 2, 0, 9);
        T.due("the state stays", Tell.check(g, 2, 8), -1);
        FlexGrid first = Tell.gridWith("slots 10;between 0;link 0 1 30", "ask 0 1 8 0;ask 0 1 24 3;jump 0 2");
        repackIs(first, 3, 9, 2, 0, 2, 9, 2);
        unravelIs(first, 3, 1, 2, 0, 9);
        FlexGrid none = Tell.gridWith("slots 9;between 0;link 0 1 30", "ask 0 1 8 0;ask 0 1 24 3");
        unravelIs(none, 3, 0, 0, 2, 8);
    }

    private static void parksEachOnce() {
        T.says("(as all is by then; the lowest such slot)");
        FlexGrid g = Tell.gridWith("slots 10;between 0;link 0 1 30", "ask 0 1 24 0;ask 0 1 8 3");
        // 0 fills 0 to 5, 1 stands at 8 and parks at 6, where it is in the way still
        repackIs(g, 3, 9, 2, 0, 2, 9, 2);
        unravelIs(g, 3, 1, 0, 2, 7);
        FlexGrid none = Tell.gridWith("slots 9;between 0;link 0 1 30", "ask 0 1 24 0;ask 0 1 8 3");
        unravelIs(none, 3, 0, 0, 2, 8);
    }

    private static void parksOneByOne() {
        T.says("UNRAVELLED by a RULE, what 0 how many were PARKED, 1 MOVES done to TARGETS, 2 MOVES left, 3 TOP then;");
        FlexGrid g = Tell.gridWith("nodes 3;slots 12;between 0;link 0 1 30;link 1 2 30",
            "ask 0 1 16 0;ask 0 1 16 0;jump 1 8;jump 0 4;ask 1 2 16 0;ask 1 2 16 0;jump 3 8;jump 2 4");
        repackIs(g, 3, 11, 4, 0, 4, 11, 4);
        unravelIs(g, 3, 2, 4, 0, 11);
        T.due("no move is parked in the plan itself", g.plan(3), 0);
        T.due("all stand", Tell.check(g, 4, 8, 4, 8), -1);
    }

    private static void parksInTheWay() {
        T.says("where no MOVE can be done and some are left,");
        FlexGrid g = Tell.gridWith("slots 8;between 0;link 0 1 30", "ask 0 1 8 0;ask 0 1 4 0;ask 0 1 12 3");
        // 0 parks at 3 and 1 at 0; then 2, which is to go to 2, has 0 in its way, and no room to park
        unravelIs(g, 3, 2, 0, 3, 7);
        unravelIs(g, 0, 0, 1, 0, 5);
        FlexGrid later = Tell.gridWith("slots 8;between 0;link 0 1 30", "ask 0 1 12 0;ask 0 1 8 3;ask 0 1 4 0");
        unravelIs(later, 3, 2, 1, 2, 6);
    }
}
