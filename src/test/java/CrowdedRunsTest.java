import java.util.Random;
import java.util.Set;
import java.util.TreeSet;

/**
 * Small grids crowded with demands that were dropped, moved and relit: there moves wait for one another, go round,
 * are parked or left, and repacks are spoiled. What is laid anew in thought is held against PlainGrid.
 */
public final class CrowdedRunsTest {
    private static final int RUNS = 150;
    private static final int STEPS = 40;
    private static final Tell T = new Tell("CrowdedRunsTest");

    private final Random random;
    private final FlexGrid grid = new FlexGrid();
    private final PlainGrid plain = new PlainGrid();
    private final String run;

    private CrowdedRunsTest(long seed) {
        random = new Random(seed);
        run = "seed " + seed + ": ";
    }

    public static void main(String[] args) {
        int runs = Integer.getInteger("runs", RUNS);
        long from = Long.getLong("seed", 1L);
        int[] seen = new int[4];
        for (long seed = from; seed < from + runs; seed++) {
            CrowdedRunsTest one = new CrowdedRunsTest(seed);
            one.tellGrid();
            for (int i = 0; i < STEPS; i++) {
                one.step();
            }
            for (int rule = 0; rule < 4; rule++) {
                one.look(rule, seen);
            }
            one.changeAndLook();
        }
        // A run that meets none of these would show nothing.
        T.due("some repacks are spoiled", seen[0] > 0, true);
        T.due("some moves go round", seen[1] > 0, true);
        T.due("some are parked, more than one", seen[2] > 0, true);
        T.due("some are left behind all", seen[3] > 0, true);
        T.end();
    }

    private void due(String call, int got, int want) {
        T.due(run + call, got, want);
    }

    private void tellGrid() {
        int nodes = 2 + random.nextInt(4);
        StringBuilder text = new StringBuilder("nodes " + nodes + ";slots " + (8 + random.nextInt(16)) + ";between "
            + random.nextInt(random.nextBoolean() ? 2 : 5) + ";link 0 1 " + (1 + random.nextInt(60)));
        Set<Integer> joined = new TreeSet<>(Set.of(1));
        for (int i = 0; i < 20 && text.length() < 185; i++) {
            int p = random.nextInt(nodes);
            int q = random.nextInt(nodes);
            if (p != q && joined.add(Math.min(p, q) * 8 + Math.max(p, q))) {
                text.append(";link " + p + " " + q + " " + (1 + random.nextInt(random.nextBoolean() ? 9 : 60)));
            }
        }
        for (int at = 0; at < text.length(); at += 20) {
            int[] five = new int[5];
            for (int i = 0; i < 20; i++) {
                int sign = at + i < text.length() ? text.charAt(at + i) : 32;
                five[i / 4] |= sign << 24 - i % 4 * 8;
            }
            due("feed", grid.feed(five[0], five[1], five[2], five[3], five[4]), plain.feed(five));
        }
        due("grid " + text, grid.grid(text.length()), plain.grid(text.length()));
    }

    private void step() {
        int nodes = plain.world.nodes;
        int p = random.nextInt(nodes);
        int q = (p + 1 + random.nextInt(nodes - 1)) % nodes;
        int rate = 1 + random.nextInt(random.nextInt(3) == 0 ? 40 : 10);
        int rule = random.nextInt(4);
        int demand = random.nextInt(plain.world.demands.size() + 1);
        int slot = random.nextInt(plain.world.slots);
        int link = random.nextInt(plain.world.links.size());
        switch (random.nextInt(12)) {
            case 0 -> due("drop", grid.drop(demand) ? 1 : 0, plain.drop(demand) ? 1 : 0);
            case 1 -> due("jump", grid.jump(demand, slot), plain.jump(demand, slot));
            case 2 -> due("mend", grid.mend(link) ? 1 : 0, plain.mend(link) ? 1 : 0);
            case 3 -> due("relight", grid.relight(rule), plain.relight(rule));
            case 4 -> {
                if (random.nextInt(3) == 0) {
                    due("cut", grid.cut(link), plain.cut(link));
                }
            }
            default -> due("ask", grid.ask(p, q, rate, rule), plain.ask(p, q, rate, rule));
        }
    }

    private void look(int rule, int[] seen) {
        for (int what = 0; what < 6; what++) {
            due("repack " + rule + " " + what, grid.repack(rule, what), plain.repack(rule, what));
        }
        for (int what = 0; what < 4; what++) {
            due("unravel " + rule + " " + what, grid.unravel(rule, what), plain.unravel(rule, what));
        }
        for (int i = 0; i < 6; i++) {
            for (int what = 0; what < 3; what++) {
                due("planned " + rule + " " + i + " " + what, grid.planned(rule, i, what),
                    plain.planned(rule, i, what));
            }
        }
        for (int demand = 0; demand < plain.world.demands.size(); demand++) {
            due("waits " + rule + " " + demand, grid.waits(rule, demand), plain.waits(rule, demand));
        }
        seen[0] += plain.repack(rule, 1) == -2 ? 1 : 0;
        seen[1] += plain.repack(rule, 5) > 0 ? 1 : 0;
        seen[2] += plain.unravel(rule, 0) > 1 ? 1 : 0;
        seen[3] += plain.unravel(rule, 2) > 0 ? 1 : 0;
    }

    private void changeAndLook() {
        int rule = random.nextInt(4);
        due("plan", grid.plan(rule), plain.plan(rule));
        due("sweeps", grid.sweeps(), plain.sweeps());
        for (int demand = 0; demand < plain.world.demands.size(); demand++) {
            due("FIRST of " + demand, grid.demandIs(demand, 4), plain.demandIs(demand, 4));
            due("LINKS of " + demand, grid.demandIs(demand, 7), plain.demandIs(demand, 7));
        }
    }
}
