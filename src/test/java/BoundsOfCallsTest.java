import java.util.function.ToIntBiFunction;
import java.util.function.ToIntFunction;

/** Of every call each argument: at both ends of its range it is taken, beyond them, near and far, it is refused. */
public final class BoundsOfCallsTest {
    private static final Tell T = new Tell("BoundsOfCallsTest");

    private BoundsOfCallsTest() { }

    public static void main(String[] args) {
        texts();
        asks();
        demands();
        links();
        rules();
        times();
        grids();
        linkLooks();
        demandLooks();
        ways();
        findings();
        witnesses();
        blockings();
        repacks();
        trials();
        partsAndMore();
        cutsInThought();
        checksAndCounts();
        noneComesFirst();
        T.end();
    }

    /** Three nodes; DEMANDS 0 to 3 are LIT, 4 is BLOCKED; the tape is full. */
    private static FlexGrid laden() {
        FlexGrid g = Tell.gridWith("nodes 3;slots 10;link 0 1 30;link 1 2 30;link 0 2 90",
            "ask 0 2 6 0;ask 0 1 8 0;ask 1 2 20 0;ask 0 2 9 0;ask 0 2 9 0");
        Tell.feed(g, "?".repeat(240));
        return g;
    }

    private static void taken(String call, ToIntBiFunction<FlexGrid, Integer> answer, int value, int want) {
        T.due(call + " of " + value, answer.applyAsInt(laden(), value), want);
    }

    /** Both ends with the answers that are due there; one step beyond, and as far as an int goes, the refusal. */
    private static void ends(String call, ToIntBiFunction<FlexGrid, Integer> answer, int refusal, int... lowHigh) {
        taken(call, answer, lowHigh[0], lowHigh[1]);
        taken(call, answer, lowHigh[2], lowHigh[3]);
        taken(call, answer, lowHigh[0] - 1, refusal);
        taken(call, answer, lowHigh[2] + 1, refusal);
        taken(call, answer, Integer.MIN_VALUE, refusal);
        taken(call, answer, Integer.MAX_VALUE, refusal);
    }

    private static int yes(boolean b) {
        return b ? 1 : 0;
    }

    private static void texts() {
        T.says("A GRID by the first n bytes of the tape (1 to 200; empty then):");
        ends("grid", (g, n) -> g.grid(n), -1, 1, -1000, 200, -1000);
        T.says("WORKS by the first n bytes of the tape (1 to 200; empty then):");
        ends("works", (g, n) -> g.works(n), -1, 1, -1000, 200, -1000);
    }

    private static void asks() {
        T.says("ASK: the DEMAND's number if it is LIT; -2: it is BLOCKED; -3: there are 40;");
        ends("ask from", (g, v) -> g.ask(v, 1, 4, 0), -1, 0, 5, 2, 5);
        ends("ask to", (g, v) -> g.ask(1, v, 4, 0), -1, 0, 5, 2, 5);
        ends("ask rate", (g, v) -> g.ask(0, 1, v, 0), -1, 1, 5, 64, -2);
        ends("ask rule", (g, v) -> g.ask(0, 1, 1, v), -1, 0, 5, 3, 5);
        for (int node = 0; node < 3; node++) {
            T.due("a node with itself", laden().ask(node, node, 1, 0), -1);
        }
    }

    private static void demands() {
        T.says("DROP: true; false: no such one, it is GONE.");
        ends("drop", (g, v) -> yes(g.drop(v)), 0, 0, 1, 4, 1);
        T.says("SLIDE: by how many slots; NONE: no such one, not LIT.");
        ends("slide", (g, v) -> g.slide(v), -1, 0, 0, 3, 0);
        taken("slide, blocked", (g, v) -> g.slide(v), 4, -1);
        taken("slide, none", (g, v) -> g.slide(v), 5, -1);
        T.says("JUMP: how many slots lower it is then (below 0: higher);");
        ends("jump", (g, v) -> g.jump(v, 5), -1000, 0, -1001, 3, -5);
        ends("jump slot", (g, v) -> g.jump(1, v), -1000, 0, -1001, 8, -5);
        taken("jump, blocked", (g, v) -> g.jump(v, 0), 4, -1000);
        taken("jump, none", (g, v) -> g.jump(v, 0), 5, -1000);
    }

    private static void links() {
        T.says("CUT: how many DEMANDS became DARK; -2: it is cut; NONE: no such LINK.");
        ends("cut", (g, v) -> g.cut(v), -1, 0, 2, 2, 1);
        T.says("MEND: true; false: no such LINK, it is up.");
        ends("mend", (g, v) -> {
            g.cut(0);
            g.cut(2);
            return yes(g.mend(v));
        }, 0, 0, 1, 2, 1);
        taken("mend of one that is up", (g, v) -> yes(g.mend(v)), 1, 0);
    }

    private static void rules() {
        T.says("RELIGHT: how many are LIT again; NONE: no such RULE.");
        ends("relight", (g, v) -> {
            g.cut(1);
            g.mend(1);
            return g.relight(v);
        }, -1, 0, 2, 3, 2);
        T.says("The moves of a REPACK's PLAN by a RULE are done: how many; -2: the REPACK is spoiled; NONE: no such");
        ends("plan", (g, v) -> {
            g.drop(0);
            return g.plan(v);
        }, -1, 0, 3, 3, 3);
    }

    private static void times() {
        T.says("NONE: no such ones.");
        ends("lasts", (g, v) -> g.lasts(v, 7), -1, 0, 7, 3, 7);
        ends("lasts n", (g, v) -> g.lasts(0, v), -1, 1, 1, 9999, 9999);
        T.says("-3: it would be above 99999; NONE: no such n.");
        ends("ticks", (g, v) -> g.ticks(v), -1, 1, 0, 1000, 0);
        T.says("THE SEED (0 to 65535; X, too): true; false: no such number.");
        ends("seed", (g, v) -> yes(g.seed(v)), 0, 0, 1, 65535, 1);
    }

    private static void grids() {
        T.says("12 THE CLOCK, 13 X, 20 + f REACH of FORMAT f; -2: no such what.");
        ends("gridIs", (g, v) -> g.gridIs(v), -2, 0, 3, 13, 1);
        ends("gridIs reach", (g, v) -> g.gridIs(v), -2, 20, 200, 23, 40);
    }

    private static void linkLooks() {
        T.says("20 + w ROOM of w (w 1 to 64); NONE: no such ones.");
        ends("linkIs", (g, v) -> g.linkIs(v, 2), -1, 0, 30, 2, 90);
        ends("linkIs what", (g, v) -> g.linkIs(0, v), -1, 0, 0, 9, 2);
        ends("linkIs room", (g, v) -> g.linkIs(0, v), -1, 21, 6, 84, 0);
    }

    private static void demandLooks() {
        T.says("11 its END (none, or neither LIT nor DARK: -2); NONE: no such ones.");
        ends("demandIs", (g, v) -> g.demandIs(v, 2), -1, 0, 6, 4, 9);
        ends("demandIs what", (g, v) -> g.demandIs(1, v), -1, 0, 0, 11, -2);
        for (int what = 4; what <= 10; what++) {
            T.due("not lit, what " + what, laden().demandIs(4, what), -2);
        }
        for (int what = 0; what <= 3; what++) {
            T.due("not lit, what " + what, laden().demandIs(4, what) >= 0, true);
        }
    }

    private static void ways() {
        T.says("4 how many WAYS there are (k is 0 to 3, whichever there are); -2: there are not so many;");
        ends("way from", (g, v) -> g.way(v, 1, 0, 0), -1, 0, 30, 2, 30);
        ends("way to", (g, v) -> g.way(1, v, 0, 0), -1, 0, 30, 2, 30);
        ends("way k", (g, v) -> g.way(0, 2, v, 0), -1, 0, 60, 3, -2);
        ends("way k, how many", (g, v) -> g.way(0, 2, v, 4), -1, 0, 2, 3, 2);
        ends("way what", (g, v) -> g.way(0, 2, 0, v), -1, 0, 60, 4, 2);
        taken("way k, the last there is", (g, v) -> g.way(0, 2, v, 0), 1, 90);
        taken("way k, not so many", (g, v) -> g.way(0, 2, v, 0), 2, -2);
        T.due("a node with itself", laden().way(2, 2, 0, 0), -1);
    }

    private static void findings() {
        T.says("Where a DEMAND between two NODES of a RATE would be by a RULE, what 0 the WAY, 1 FIRST, 2 WIDTH;");
        ends("found from", (g, v) -> g.found(v, 1, 1, 0, 1), -1, 0, 6, 2, 9);
        ends("found to", (g, v) -> g.found(1, v, 1, 0, 1), -1, 0, 6, 2, 9);
        ends("found rate", (g, v) -> g.found(0, 1, v, 0, 1), -1, 1, 6, 64, -2);
        ends("found rule", (g, v) -> g.found(0, 1, 1, v, 1), -1, 0, 6, 3, 9);
        ends("found what", (g, v) -> g.found(0, 1, 1, 0, v), -1, 0, 0, 2, 1);
        T.due("a node with itself", laden().found(1, 1, 1, 0, 0), -1);
    }

    private static void witnesses() {
        T.says("NONE: no such ones (k 0 to 3, slots 0 to m less 1).");
        ends("witness from", (g, v) -> g.witness(v, 1, 1, 0, 0), -1, 0, 0, 2, 0);
        ends("witness to", (g, v) -> g.witness(1, v, 1, 0, 0), -1, 0, 0, 2, 0);
        ends("witness rate", (g, v) -> g.witness(0, 1, v, 0, 9), -1, 1, -2, 64, -3);
        ends("witness k", (g, v) -> g.witness(0, 2, 1, v, 0), -1, 0, 0, 3, -4);
        ends("witness slot", (g, v) -> g.witness(0, 1, 1, 0, v), -1, 0, 0, 9, -2);
        T.due("a node with itself", laden().witness(0, 0, 1, 0, 0), -1);
    }

    private static void blockings() {
        T.says("1 if no WINDOW FITS (so it would be BLOCKED),");
        ends("blocked from", (g, v) -> g.blocked(v, 1, 1, 0), -1, 0, 0, 2, 0);
        ends("blocked to", (g, v) -> g.blocked(1, v, 1, 0), -1, 0, 0, 2, 0);
        ends("blocked rate", (g, v) -> g.blocked(0, 1, v, 0), -1, 1, 0, 64, 1);
        ends("blocked what", (g, v) -> g.blocked(0, 2, 9, v), -1, 0, 1, 2, 0);
        T.due("a node with itself", laden().blocked(0, 0, 1, 0), -1);
    }

    private static void repacks() {
        T.says("5 MOVES that go ROUND (WAIT in a ring: by WAITS one comes back to itself); -2: it is spoiled;");
        ends("repack rule", (g, v) -> g.repack(v, 0), -1, 0, 7, 3, 9);
        ends("repack what", (g, v) -> g.repack(0, v), -1, 0, 7, 5, 0);
        T.says("-2: the REPACK is spoiled; -4: there are not so many; NONE: no such ones (i below 0).");
        ends("planned rule", (g, v) -> g.planned(v, 0, 0), -1, 0, -4, 3, 1);
        ends("planned what", (g, v) -> g.planned(3, 0, v), -1, 0, 1, 2, 1);
        taken("planned i", (g, v) -> g.planned(3, v, 0), 0, 1);
        taken("planned i", (g, v) -> g.planned(3, v, 0), -1, -1);
        taken("planned i", (g, v) -> g.planned(3, v, 0), Integer.MIN_VALUE, -1);
        taken("planned i", (g, v) -> g.planned(3, v, 0), Integer.MAX_VALUE, -4);
        // 1 and 3 can go; 0 and 2 wait for one another
        taken("planned i", (g, v) -> g.planned(3, v, 0), 1, 3);
        taken("planned i", (g, v) -> g.planned(3, v, 0), 2, -4);
        T.says("-2: the REPACK is spoiled; -4: it is no MOVE; NONE: no such ones.");
        ends("waits rule", (g, v) -> g.waits(v, 0), -1, 0, -4, 3, 1);
        ends("waits demand", (g, v) -> g.waits(3, v), -1, 0, 1, 4, -4);
        T.says("3 TOP then; -2: the REPACK is spoiled; NONE: no such ones.");
        ends("unravel rule", (g, v) -> g.unravel(v, 3), -1, 0, 7, 3, 9);
        ends("unravel what", (g, v) -> g.unravel(0, v), -1, 0, 0, 3, 7);
    }

    private static void trials() {
        T.says("3 DEMANDS LIT at last; -2: no such ones.");
        ends("trial n", (g, v) -> g.trial(v, 1, 3, 2), -2, 1, 9, 200, 9);
        ends("trial load", (g, v) -> g.trial(1, v, 0, 3), -2, 1, 1, 64, 1);
        ends("trial rule", (g, v) -> g.trial(1, 1, v, 0), -2, 0, 0, 3, 0);
        ends("trial what", (g, v) -> g.trial(1, 1, 0, v), -2, 0, 0, 3, 1);
        T.says("(of like ones the lowest); -2: no such ones.");
        ends("bestRule n", (g, v) -> g.bestRule(v, 1), -2, 1, 0, 200, 1);
        ends("bestRule load", (g, v) -> g.bestRule(1, v), -2, 1, 0, 64, 0);
    }

    private static void partsAndMore() {
        T.says(
            "PARTS of a RATE between two NODES by a RULE, how many; -2: something would be left; NONE: no such ones.");
        ends("parts from", (g, v) -> g.parts(v, 1, 1, 0), -1, 0, 1, 2, 1);
        ends("parts to", (g, v) -> g.parts(1, v, 1, 0), -1, 0, 1, 2, 1);
        ends("parts rate", (g, v) -> g.parts(0, 1, v, 0), -1, 1, 1, 64, -2);
        ends("parts rule", (g, v) -> g.parts(0, 1, 1, v), -1, 0, 1, 3, 1);
        T.due("a node with itself", laden().parts(0, 0, 1, 0), -1);
        T.says("`int more(int from, int to, int rate, int rule)`: MORE; NONE: no such ones.");
        ends("more from", (g, v) -> g.more(v, 1, 16, 0), -1, 0, 1, 2, 0);
        ends("more to", (g, v) -> g.more(1, v, 16, 0), -1, 0, 1, 2, 0);
        ends("more rate", (g, v) -> g.more(2, 1, v, 0), -1, 1, 3, 64, 0);
        ends("more rule", (g, v) -> g.more(0, 1, 16, v), -1, 0, 1, 3, 1);
        T.due("a node with itself, more", laden().more(0, 0, 1, 0), -1);
    }

    private static void cutsInThought() {
        T.says("2 TOP then; -2: it is cut; NONE: no such ones.");
        ends("ifCut link", (g, v) -> g.ifCut(v, 0, 0), -1, 0, 2, 2, 1);
        ends("ifCut rule", (g, v) -> g.ifCut(0, v, 0), -1, 0, 2, 3, 2);
        ends("ifCut what", (g, v) -> g.ifCut(2, 0, v), -1, 0, 1, 2, 7);
    }

    private static void checksAndCounts() {
        T.says("CHECK by the first n bytes of the tape (0 to 40; empty then):");
        ends("check", (g, v) -> g.check(v), -2, 0, -1, 40, 0);
        T.says("NONE for others.");
        ends("count", (g, v) -> g.count(v), -1, 0, 5, 2, 5);
    }

    private static void none(String call, FlexGrid g, int because, ToIntFunction<FlexGrid> one,
        ToIntFunction<FlexGrid> two) {
        T.due(call + ", for one reason", one.applyAsInt(g), because);
        T.due(call + ", for two", two.applyAsInt(g), -1);
    }

    private static void noneComesFirst() {
        T.says("Of several reasons NONE comes first.");
        FlexGrid full = new FlexGrid();
        for (int i = 0; i < 40; i++) {
            full.ask(0, 1, 1, 0);
        }
        none("ask", full, -3, g -> g.ask(0, 1, 1, 0), g -> g.ask(0, 1, 1, 4));
        none("ask, rate", full, -3, g -> g.ask(0, 1, 64, 0), g -> g.ask(0, 1, 65, 0));
        none("ask, nodes", full, -3, g -> g.ask(0, 1, 64, 0), g -> g.ask(1, 1, 64, 0));
        none("way", full, -2, g -> g.way(0, 1, 0, 0), g -> g.way(0, 1, 0, 5));
        none("way, k", full, -2, g -> g.way(0, 1, 3, 0), g -> g.way(0, 1, 4, 0));
        none("found", full, -2, g -> g.found(0, 1, 1, 0, 0), g -> g.found(0, 1, 1, 0, 3));
        none("found, rule", full, -2, g -> g.found(0, 1, 1, 3, 0), g -> g.found(0, 1, 1, 4, 0));
        none("witness", full, -4, g -> g.witness(0, 1, 1, 0, 39), g -> g.witness(0, 1, 1, 0, 40));
        none("blocked", full, -4, g -> g.blocked(0, 1, 1, 2), g -> g.blocked(0, 1, 1, 3));
        none("blocked, rate", full, -4, g -> g.blocked(0, 1, 64, 2), g -> g.blocked(0, 1, 65, 2));
        none("parts", full, -2, g -> g.parts(0, 1, 1, 3), g -> g.parts(0, 1, 1, 4));
        none("demandIs", full, -2, g -> g.demandIs(0, 11), g -> g.demandIs(0, 12));
        none("demandIs, demand", full, -2, g -> g.demandIs(39, 4), g -> g.demandIs(40, 4));
        none("planned", full, -4, g -> g.planned(0, 0, 2), g -> g.planned(0, 0, 3));
        none("planned, i", full, -4, g -> g.planned(0, 0, 2), g -> g.planned(0, -1, 2));
        none("waits", full, -4, g -> g.waits(0, 39), g -> g.waits(0, 40));
        none("waits, rule", full, -4, g -> g.waits(3, 0), g -> g.waits(4, 0));
        FlexGrid spoiled = Spoiled.grid();
        none("repack", spoiled, -2, g -> g.repack(0, 5), g -> g.repack(0, 6));
        none("repack, rule", spoiled, -2, g -> g.repack(0, 5), g -> g.repack(-1, 5));
        none("planned, spoiled", spoiled, -2, g -> g.planned(0, 0, 0), g -> g.planned(0, -1, 0));
        none("planned, what", spoiled, -2, g -> g.planned(0, 99, 2), g -> g.planned(0, 99, 3));
        none("waits, spoiled", spoiled, -2, g -> g.waits(0, 2), g -> g.waits(0, 3));
        none("unravel", spoiled, -2, g -> g.unravel(0, 3), g -> g.unravel(0, 4));
        none("plan", spoiled, -2, g -> g.plan(0), g -> g.plan(4));
        FlexGrid cut = laden();
        cut.cut(0);
        none("ifCut", cut, -2, g -> g.ifCut(0, 3, 2), g -> g.ifCut(0, 4, 2));
        none("ifCut, what", cut, -2, g -> g.ifCut(0, 3, 2), g -> g.ifCut(0, 3, 3));
        none("witness, beyond", cut, -3, g -> g.witness(1, 2, 64, 0, 9), g -> g.witness(1, 2, 64, 0, 10));
        none("witness, rate", cut, -3, g -> g.witness(1, 2, 64, 0, 9), g -> g.witness(1, 2, 65, 0, 9));
    }
}
