import java.util.ArrayList;
import java.util.List;
import java.util.function.Supplier;
import java.util.function.ToIntFunction;

/**
 * A call that is refused changes nothing but the tape, where it is told: a grid on which it was tried is held
 * against one on which it was not, as they are, as they are once undone, and by what their tapes hold.
 */
public final class RefusedTest {
    private static final Tell T = new Tell("RefusedTest");
    private static final String NET = "nodes 3;slots 12;link 0 1 30;link 1 2 30;link 0 2 90";
    /** Twenty bytes that are a GRID. */
    private static final String TAPE = "slots 20;link 0 1 30";

    private RefusedTest() { }

    public static void main(String[] args) {
        T.says("A call that is refused (NONE, -2 to -9, false) changes nothing but the tape, where it is told.");
        asks();
        asksOfForty();
        dropsAndSlides();
        jumps();
        cutsAndMends();
        rules();
        spoiledPlans();
        times();
        theLastTime();
        nothingKept();
        fullTapes();
        textsNotThere();
        faults();
        worksRefused();
        looks();
        emptyGrids();
        T.end();
    }

    /** DEMANDS 0 and 1 are LIT, 2 BLOCKED, 3 DARK, 4 GONE, 5 LIT; LINK 1 is cut; something else was KEPT. */
    private static FlexGrid laden() {
        FlexGrid g = Tell.gridWith(NET, "ask 0 2 6 0;drop 0;ticks 1;ask 0 1 8 0;lasts 1 50");
        g.seed(77);
        g.keep();
        Tell.grid(g, NET);
        Tell.works(g, "ask 0 1 8 0;ask 0 1 8 3;ask 0 1 64 0;ask 1 2 8 0;ask 0 1 4 0;drop 4;cut 1;ask 0 2 9 3");
        Tell.works(g, "lasts 0 9;lasts 3 30;ticks 5");
        g.seed(1234);
        Tell.feed(g, TAPE);
        return g;
    }

    /** A call that is refused, and what it answers. */
    private static void refused(String name, Supplier<FlexGrid> made, ToIntFunction<FlexGrid> call, int want) {
        FlexGrid tried = made.get();
        T.due(name, call.applyAsInt(tried), want);
        T.due(name + " changes nothing", Look.at(tried), Look.at(made.get()));
        FlexGrid undone = made.get();
        call.applyAsInt(undone);
        FlexGrid other = made.get();
        T.due(name + ": undone", undone.undo(), other.undo());
        T.due(name + ": what was kept stays", Look.at(undone), Look.at(other));
        T.due(name + ": the tape", tape(made, call), tape(made, g -> 0));
    }

    /** What a tape holds shows by how it reads as a GRID, and what comes of it. */
    private static List<Integer> tape(Supplier<FlexGrid> made, ToIntFunction<FlexGrid> call) {
        FlexGrid g = made.get();
        call.applyAsInt(g);
        List<Integer> seen = new ArrayList<>(List.of(g.count(1)));
        seen.add(g.grid(Math.min(200, g.count(1))));
        seen.add(g.gridIs(1));
        seen.add(g.linkIs(0, 2));
        return seen;
    }

    private static void refused(String name, ToIntFunction<FlexGrid> call, int want) {
        refused(name, RefusedTest::laden, call, want);
    }

    private static int yes(boolean b) {
        return b ? 1 : 0;
    }

    private static void asks() {
        FlexGrid g = laden();
        int[] states = {0, 0, 1, 2, 3, 0};
        for (int i = 0; i < states.length; i++) {
            T.due("state of " + i, g.demandIs(i, 3), states[i]);
        }
        refused("ask of a node with itself", f -> f.ask(1, 1, 4, 0), -1);
        refused("ask from -1", f -> f.ask(-1, 1, 4, 0), -1);
        refused("ask from 3", f -> f.ask(3, 1, 4, 0), -1);
        refused("ask to -1", f -> f.ask(1, -1, 4, 0), -1);
        refused("ask to 3", f -> f.ask(1, 3, 4, 0), -1);
        refused("ask rate 0", f -> f.ask(0, 1, 0, 0), -1);
        refused("ask rate 65", f -> f.ask(0, 1, 65, 0), -1);
        refused("ask rule -1", f -> f.ask(0, 1, 4, -1), -1);
        refused("ask rule 4", f -> f.ask(0, 1, 4, 4), -1);
    }

    private static FlexGrid forty() {
        FlexGrid g = Tell.gridOf("slots 60;between 0;link 0 1 30");
        for (int i = 0; i < 40; i++) {
            g.ask(0, 1, 4, i % 4);
        }
        g.keep();
        g.drop(38);
        Tell.feed(g, TAPE);
        return g;
    }

    private static void asksOfForty() {
        refused("a 41st", RefusedTest::forty, f -> f.ask(0, 1, 1, 0), -3);
        refused("a 41st of no such rate", RefusedTest::forty, f -> f.ask(0, 1, 65, 0), -1);
        refused("a 41st demand dropped", RefusedTest::forty, f -> yes(f.drop(40)), 0);
        refused("a 41st demand slid", RefusedTest::forty, f -> f.slide(40), -1);
        refused("a 41st demand lasting", RefusedTest::forty, f -> f.lasts(40, 9), -1);
        refused("a 41st demand jumping", RefusedTest::forty, f -> f.jump(40, 50), -1000);
    }

    private static void dropsAndSlides() {
        refused("drop -1", f -> yes(f.drop(-1)), 0);
        refused("drop 6", f -> yes(f.drop(6)), 0);
        refused("drop of a gone one", f -> yes(f.drop(4)), 0);
        refused("slide -1", f -> f.slide(-1), -1);
        refused("slide 6", f -> f.slide(6), -1);
        refused("slide of a blocked one", f -> f.slide(2), -1);
        refused("slide of a dark one", f -> f.slide(3), -1);
        refused("slide of a gone one", f -> f.slide(4), -1);
        refused("slide by 0", f -> f.slide(0), 0);
    }

    private static void jumps() {
        refused("jump -1", f -> f.jump(-1, 5), -1000);
        refused("jump 6", f -> f.jump(6, 5), -1000);
        refused("jump of a blocked one", f -> f.jump(2, 5), -1000);
        refused("jump of a dark one", f -> f.jump(3, 5), -1000);
        refused("jump of a gone one", f -> f.jump(4, 5), -1000);
        refused("jump to -1", f -> f.jump(0, -1), -1000);
        refused("jump to 11", f -> f.jump(0, 11), -1000);
        refused("jump to 12", f -> f.jump(0, 12), -1000);
        refused("jump upon itself", f -> f.jump(0, 1), -1001);
        refused("jump upon another", f -> f.jump(0, 9), -1001);
        refused("jump beside another", f -> f.jump(0, 8), -1001);
    }

    private static void cutsAndMends() {
        refused("cut -1", f -> f.cut(-1), -1);
        refused("cut 3", f -> f.cut(3), -1);
        refused("cut of one that is cut", f -> f.cut(1), -2);
        refused("mend -1", f -> yes(f.mend(-1)), 0);
        refused("mend 3", f -> yes(f.mend(3)), 0);
        refused("mend of one that is up", f -> yes(f.mend(0)), 0);
    }

    private static void rules() {
        refused("relight -1", f -> f.relight(-1), -1);
        refused("relight 4", f -> f.relight(4), -1);
        refused("plan -1", f -> f.plan(-1), -1);
        refused("plan 4", f -> f.plan(4), -1);
    }

    private static FlexGrid spoiled() {
        FlexGrid g = Spoiled.grid();
        g.keep();
        g.ticks(3);
        Tell.feed(g, TAPE);
        return g;
    }

    private static void spoiledPlans() {
        refused("a spoiled plan", RefusedTest::spoiled, f -> f.plan(0), -2);
        refused("a spoiled repack", RefusedTest::spoiled, f -> f.repack(0, 4), -2);
        refused("waits of a spoiled one", RefusedTest::spoiled, f -> f.waits(0, 1), -2);
        refused("planned of a spoiled one", RefusedTest::spoiled, f -> f.planned(0, 0, 0), -2);
        refused("a spoiled unravel", RefusedTest::spoiled, f -> f.unravel(0, 0), -2);
    }

    private static void times() {
        refused("lasts of -1", f -> f.lasts(-1, 5), -1);
        refused("lasts of 6", f -> f.lasts(6, 5), -1);
        refused("lasts of a blocked one", f -> f.lasts(2, 5), -1);
        refused("lasts of a gone one", f -> f.lasts(4, 5), -1);
        refused("lasts 0", f -> f.lasts(0, 0), -1);
        refused("lasts 10000", f -> f.lasts(0, 10000), -1);
        refused("ticks -1", f -> f.ticks(-1), -1);
        refused("ticks 0", f -> f.ticks(0), -1);
        refused("ticks 1001", f -> f.ticks(1001), -1);
        refused("seed -1", f -> yes(f.seed(-1)), 0);
        refused("seed 65536", f -> yes(f.seed(65536)), 0);
    }

    private static FlexGrid late() {
        FlexGrid g = Tell.gridWith(TAPE, "ask 0 1 8 0;ask 0 1 8 0");
        for (int i = 0; i < 99; i++) {
            g.ticks(1000);
        }
        g.keep();
        g.ticks(900);
        g.lasts(0, 99);
        g.lasts(1, 9);
        Tell.feed(g, TAPE);
        return g;
    }

    private static void theLastTime() {
        refused("ticks beyond the last time", RefusedTest::late, f -> f.ticks(100), -3);
        refused("ticks far beyond it", RefusedTest::late, f -> f.ticks(1000), -3);
        Supplier<FlexGrid> last = () -> {
            FlexGrid g = late();
            g.ticks(99);
            g.check(0);
            return g;
        };
        T.due("the last time", last.get().gridIs(12), 99999);
        refused("one time more", last, f -> f.ticks(1), -3);
        refused("one time more in works", last, f -> Tell.works(f, "ticks 1;drop 1"), 0);
    }

    private static void nothingKept() {
        Supplier<FlexGrid> made = () -> {
            FlexGrid g = Tell.gridWith(NET, "ask 0 1 8 0;ticks 2;cut 1");
            Tell.feed(g, TAPE);
            return g;
        };
        refused("undo of nothing", made, f -> yes(f.undo()), 0);
    }

    private static void fullTapes() {
        Supplier<FlexGrid> made = () -> {
            FlexGrid g = laden();
            for (int i = 1; i < 12; i++) {
                Tell.feed(g, ";slots 21;slots 0022");
            }
            return g;
        };
        T.due("the tape is full", made.get().count(1), 240);
        refused("feed", made, f -> f.feed(0, 0, 0, 0, 0), -1);
        refused("grid of 201", made, f -> f.grid(201), -1);
        refused("works of 201", made, f -> f.works(201), -1);
        refused("check of 41", made, f -> f.check(41), -2);
    }

    private static void textsNotThere() {
        int[] none = {0, -1, 21, 200, 201, Integer.MAX_VALUE, Integer.MIN_VALUE};
        for (int n : none) {
            refused("grid " + n, f -> f.grid(n), -1);
            refused("works " + n, f -> f.works(n), -1);
        }
        int[] noCheck = {-1, 21, 40, 41, Integer.MAX_VALUE, Integer.MIN_VALUE};
        for (int n : noCheck) {
            refused("check " + n, f -> f.check(n), -2);
        }
    }

    private static FlexGrid ladenWithoutTape() {
        FlexGrid g = laden();
        g.check(0);
        return g;
    }

    private static void faults() {
        String[] grids = {"x", "nodes", "slots 123456", "slots 61", "nodes 8;slots 60;between 4;reach 9 8 7 8",
            "slots 9;".repeat(24) + "x", "nodes 8;link 7 6 5;link 6 7 5", "nodes 8;link 7 7 5", "link 0 1 5;nodes 8"};
        for (String text : grids) {
            int answer = Tell.grid(new FlexGrid(), text);
            T.due("a fault: " + text, answer <= -1000, true);
            refused("grid of " + text, RefusedTest::ladenWithoutTape, f -> Tell.grid(f, text), answer);
        }
        String[] works = {"x", "drop", "drop 123456", "drop 100", "drop 0;drop", "ticks 9;".repeat(24) + "x",
            "cut 0;mend 1;relight 4", "ask 0 1 4 0;sweep;plan 4", "seed 1"};
        for (String text : works) {
            int answer = Tell.works(new FlexGrid(), text);
            T.due("a fault: " + text, answer <= -1000, true);
            refused("works of " + text, RefusedTest::ladenWithoutTape, f -> Tell.works(f, text), answer);
        }
    }

    private static void worksRefused() {
        String[] steps = {"ask 0 0 4 0", "ask 3 0 4 0", "ask 0 1 0 0", "ask 0 1 65 0", "drop 4", "drop 6", "slide 2",
            "jump 0 1", "jump 0 8", "jump 0 11", "jump 3 0", "cut 1", "cut 3", "mend 0", "mend 3", "lasts 0 0",
            "lasts 2 5", "lasts 4 5", "ticks 0"};
        for (String step : steps) {
            refused("works: " + step, RefusedTest::ladenWithoutTape, f -> Tell.works(f, step + ";drop 0;ticks 9"), 0);
        }
    }

    /** What is asked never changes anything, whether it is refused or answered. */
    private static void looks() {
        refused("gridIs 14", f -> f.gridIs(14), -2);
        refused("linkIs 3", f -> f.linkIs(3, 0), -1);
        refused("demandIs 6", f -> f.demandIs(6, 0), -1);
        refused("way of a node with itself", f -> f.way(0, 0, 0, 0), -1);
        refused("found rate 65", f -> f.found(0, 1, 65, 0, 0), -1);
        refused("witness slot 12", f -> f.witness(0, 1, 1, 0, 12), -1);
        refused("witness beyond", f -> f.witness(0, 1, 64, 0, 11), -3);
        refused("witness of no way", f -> f.witness(1, 2, 1, 3, 0), -4);
        refused("blocked what 3", f -> f.blocked(0, 1, 1, 3), -1);
        refused("repack what 6", f -> f.repack(0, 6), -1);
        refused("planned i -1", f -> f.planned(0, -1, 0), -1);
        refused("planned of none so far", f -> f.planned(0, 40, 0), -4);
        refused("waits of 6", f -> f.waits(0, 6), -1);
        refused("waits of a gone one", f -> f.waits(0, 4), -4);
        refused("unravel what 4", f -> f.unravel(0, 4), -1);
        refused("trial of 201", f -> f.trial(201, 1, 0, 0), -2);
        refused("bestRule of 201", f -> f.bestRule(201, 1), -2);
        refused("parts rate 65", f -> f.parts(0, 1, 65, 0), -1);
        refused("parts that leave something", f -> f.parts(0, 1, 64, 0), -2);
        refused("more rate 65", f -> f.more(0, 1, 65, 0), -1);
        refused("ifCut of one that is cut", f -> f.ifCut(1, 0, 0), -2);
        refused("ifCut rule 4", f -> f.ifCut(0, 4, 0), -1);
        refused("count 3", f -> f.count(3), -1);
        refused("a trial", f -> f.trial(200, 64, 2, 0) * 0, 0);
        refused("a best rule", f -> f.bestRule(200, 64) * 0, 0);
        refused("an unravelling", f -> f.unravel(3, 0) * 0, 0);
        refused("a repack", f -> f.repack(3, 5) * 0, 0);
        refused("parts", f -> f.parts(0, 1, 8, 3) * 0, 0);
        refused("more", f -> f.more(0, 1, 1, 3) * 0, 0);
        refused("a cut in thought", f -> f.ifCut(0, 3, 2) * 0, 0);
    }

    private static void emptyGrids() {
        Supplier<FlexGrid> first = FlexGrid::new;
        refused("drop", first, f -> yes(f.drop(0)), 0);
        refused("slide", first, f -> f.slide(0), -1);
        refused("sweep", first, f -> f.sweep(), 0);
        refused("sweeps", first, f -> f.sweeps(), 0);
        refused("jump", first, f -> f.jump(0, 0), -1000);
        refused("cut", first, f -> f.cut(0), -1);
        refused("mend", first, f -> yes(f.mend(0)), 0);
        refused("relight", first, f -> f.relight(0), 0);
        refused("plan", first, f -> f.plan(0), 0);
        refused("lasts", first, f -> f.lasts(0, 1), -1);
        refused("undo", first, f -> yes(f.undo()), 0);
        refused("check", first, f -> f.check(1), -2);
        refused("check of nothing", first, f -> f.check(0), -1);
        refused("grid", first, f -> f.grid(1), -1);
        refused("works", first, f -> f.works(1), -1);
    }
}
