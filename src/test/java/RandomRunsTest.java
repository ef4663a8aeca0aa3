import java.util.ArrayList;
import java.util.List;
import java.util.Random;

/** Runs of calls by draws, each asked of FlexGrid and of the plain model; every answer must be the same. */
public final class RandomRunsTest {
    private static final int RUNS = 500;
    private static final int CALLS = 180;
    private static final int SHOWN = 12;

    private final Random random;
    private final FlexGrid grid = new FlexGrid();
    private final PlainGrid plain = new PlainGrid();
    private final List<String> said = new ArrayList<>();
    private final int[] drawn = new int[5];
    private int lastNode;
    private boolean wrong;

    private RandomRunsTest(long seed) {
        random = new Random(seed);
    }

    public static void main(String[] args) {
        int runs = Integer.getInteger("runs", RUNS);
        long from = Long.getLong("seed", 1L);
        int[] asked = new int[NAMES.length];
        int bad = 0;
        for (long seed = from; seed < from + runs && bad < 3; seed++) {
            RandomRunsTest run = new RandomRunsTest(seed);
            run.go(asked);
            if (run.wrong) {
                bad++;
                int shown = Math.max(0, run.said.size() - SHOWN);
                System.out.println("seed " + seed + ": " + run.said.subList(shown, run.said.size()));
            }
        }
        for (int i = 0; i < asked.length && bad == 0 && runs >= RUNS; i++) {
            if (asked[i] == 0) {
                System.out.println("never asked: " + NAMES[i]);
                bad++;
            }
        }
        if (bad > 0) {
            System.exit(1);
        }
    }

    private static final String[] SHORT_TELLING = {"slots 9;", "slots 20;between 0;", "between 2;between 1;",
        "reach 999 999 0 0;", "reach 30 20 10 5;", "slots 8;between 4;"};

    private static final String[] NAMES = {"ask", "drop", "slide", "sweep", "sweeps", "jump", "cut", "mend",
        "relight", "plan", "lasts", "ticks", "seed", "gridIs", "linkIs", "demandIs", "way", "found", "witness",
        "blocked", "repack", "planned", "waits", "unravel", "trial", "bestRule", "parts", "more", "ifCut", "keep",
        "undo", "check", "count", "grid", "works", "feed"};

    private void go(int[] asked) {
        // One time in some the text has a FAULT: most of the run should see links all the same.
        for (int i = 0; i < 5 && plain.world.links.isEmpty() && !wrong; i++) {
            tellGrid();
        }
        for (int i = 0; i < CALLS && !wrong; i++) {
            int call = random.nextInt(3) == 0 ? 0 : random.nextInt(NAMES.length);
            asked[call]++;
            one(NAMES[call]);
        }
        for (int i = 0; i < 42 && !wrong; i++) {
            for (int what = 3; what < 12; what++) {
                due("demandIs " + i + " " + what, grid.demandIs(i, what), plain.demandIs(i, what));
            }
        }
    }

    private void due(String call, int got, int want) {
        said.add(call + " = " + got);
        if (got != want) {
            said.add("due is " + want);
            wrong = true;
        }
    }

    private void due(String call, boolean got, boolean want) {
        due(call, got ? 1 : 0, want ? 1 : 0);
    }

    /** Mostly from low to high, now and then one beyond. */
    private int near(int low, int high) {
        int luck = random.nextInt(60);
        if (luck == 0) {
            return low - 1;
        }
        if (luck == 1) {
            return high + 1;
        }
        if (luck == 2 && random.nextInt(8) == 0) {
            return random.nextBoolean() ? Integer.MIN_VALUE : Integer.MAX_VALUE;
        }
        return low + random.nextInt(high - low + 1);
    }

    private int node() {
        lastNode = near(0, plain.world.nodes - 1);
        return lastNode;
    }

    /** Mostly another one than the node before. */
    private int otherNode() {
        int nodes = plain.world.nodes;
        return random.nextInt(30) == 0 ? node() : Math.floorMod(lastNode + 1 + random.nextInt(nodes - 1), nodes);
    }

    private int rate() {
        return random.nextInt(3) == 0 ? near(1, 64) : near(1, 12);
    }

    private int demand() {
        return near(0, Math.max(0, plain.world.demands.size() - 1));
    }

    private int link() {
        return near(0, Math.max(0, plain.world.links.size() - 1));
    }

    private int rule() {
        return near(0, 3);
    }

    private String label(String name, int... args) {
        StringBuilder b = new StringBuilder(name);
        for (int i = 0; i < args.length; i++) {
            drawn[i] = args[i];
            b.append(' ').append(args[i]);
        }
        return b.toString();
    }

    private void one(String name) {
        switch (name) {
            case "grid", "works", "feed", "check" -> texts(name);
            case "gridIs", "linkIs", "demandIs", "way", "found", "witness", "blocked", "count" -> looks(name);
            case "repack", "planned", "waits", "unravel", "trial", "bestRule", "parts", "more", "ifCut" ->
                thoughts(name);
            default -> changes(name);
        }
    }

    private void texts(String name) {
        switch (name) {
            case "grid" -> {
                if (random.nextInt(12) == 0) {
                    tellGrid();
                }
            }
            case "works" -> tellWorks();
            case "feed" -> {
                if (random.nextInt(6) == 0) {
                    int a = random.nextInt();
                    due("feed", grid.feed(a, ~a, a, 7, -1), plain.feed(a, ~a, a, 7, -1));
                }
            }
            default -> tellFirsts();
        }
    }

    private void changes(String name) {
        switch (name) {
            case "ask" -> {
                String l = label(name, node(), otherNode(), rate(), rule());
                due(l, grid.ask(drawn[0], drawn[1], drawn[2], drawn[3]),
                    plain.ask(drawn[0], drawn[1], drawn[2], drawn[3]));
            }
            case "drop" -> {
                String l = label(name, demand());
                due(l, grid.drop(drawn[0]), plain.drop(drawn[0]));
            }
            case "slide" -> {
                String l = label(name, demand());
                due(l, grid.slide(drawn[0]), plain.slide(drawn[0]));
            }
            case "sweep" -> due(name, grid.sweep(), plain.sweep());
            case "sweeps" -> {
                if (random.nextInt(4) == 0) {
                    due(name, grid.sweeps(), plain.sweeps());
                }
            }
            case "jump" -> {
                String l = label(name, demand(), near(0, plain.world.slots - 1));
                due(l, grid.jump(drawn[0], drawn[1]), plain.jump(drawn[0], drawn[1]));
            }
            case "cut" -> {
                String l = label(name, link());
                if (plain.world.cut.size() < 3 || random.nextInt(20) == 0) {
                    due(l, grid.cut(drawn[0]), plain.cut(drawn[0]));
                }
            }
            case "mend" -> {
                String l = label(name, link());
                due(l, grid.mend(drawn[0]), plain.mend(drawn[0]));
            }
            case "relight" -> {
                String l = label(name, rule());
                due(l, grid.relight(drawn[0]), plain.relight(drawn[0]));
            }
            case "plan" -> {
                String l = label(name, rule());
                due(l, grid.plan(drawn[0]), plain.plan(drawn[0]));
            }
            default -> timesAndKeeping(name);
        }
    }

    private void timesAndKeeping(String name) {
        switch (name) {
            case "lasts" -> {
                String l = label(name, demand(), random.nextInt(4) == 0 ? near(1, 9999) : near(1, 20));
                due(l, grid.lasts(drawn[0], drawn[1]), plain.lasts(drawn[0], drawn[1]));
            }
            case "ticks" -> {
                String l = label(name, random.nextInt(9) == 0 ? near(1, 1000) : near(1, 8));
                due(l, grid.ticks(drawn[0]), plain.ticks(drawn[0]));
            }
            case "seed" -> {
                String l = label(name, near(0, 65535));
                due(l, grid.seed(drawn[0]), plain.seed(drawn[0]));
            }
            case "keep" -> due(name, grid.keep(), plain.keep());
            case "undo" -> {
                if (random.nextInt(3) == 0) {
                    due(name, grid.undo(), plain.undo());
                }
            }
            default -> throw new IllegalStateException(name);
        }
    }

    private void looks(String name) {
        switch (name) {
            case "gridIs" -> {
                String l = label(name, near(0, 24));
                due(l, grid.gridIs(drawn[0]), plain.gridIs(drawn[0]));
            }
            case "linkIs" -> {
                String l = label(name, link(), random.nextInt(3) == 0 ? near(20, 84) : near(0, 10));
                due(l, grid.linkIs(drawn[0], drawn[1]), plain.linkIs(drawn[0], drawn[1]));
            }
            case "demandIs" -> {
                String l = label(name, demand(), near(0, 11));
                due(l, grid.demandIs(drawn[0], drawn[1]), plain.demandIs(drawn[0], drawn[1]));
            }
            case "way" -> {
                String l = label(name, node(), otherNode(), near(0, 3), near(0, 4));
                due(l, grid.way(drawn[0], drawn[1], drawn[2], drawn[3]),
                    plain.way(drawn[0], drawn[1], drawn[2], drawn[3]));
            }
            case "found" -> {
                String l = label(name, node(), otherNode(), rate(), rule(), near(0, 2));
                due(l, grid.found(drawn[0], drawn[1], drawn[2], drawn[3], drawn[4]),
                    plain.found(drawn[0], drawn[1], drawn[2], drawn[3], drawn[4]));
            }
            case "witness" -> {
                String l = label(name, node(), otherNode(), rate(), near(0, 3), near(0, plain.world.slots - 1));
                due(l, grid.witness(drawn[0], drawn[1], drawn[2], drawn[3], drawn[4]),
                    plain.witness(drawn[0], drawn[1], drawn[2], drawn[3], drawn[4]));
            }
            case "blocked" -> {
                String l = label(name, node(), otherNode(), rate(), near(0, 2));
                due(l, grid.blocked(drawn[0], drawn[1], drawn[2], drawn[3]),
                    plain.blocked(drawn[0], drawn[1], drawn[2], drawn[3]));
            }
            default -> {
                String l = label(name, near(0, 3));
                due(l, grid.count(drawn[0]), plain.count(drawn[0]));
            }
        }
    }

    private void thoughts(String name) {
        switch (name) {
            case "repack" -> {
                String l = label(name, rule(), near(0, 5));
                due(l, grid.repack(drawn[0], drawn[1]), plain.repack(drawn[0], drawn[1]));
            }
            case "planned" -> {
                String l = label(name, rule(), near(0, 12), near(0, 2));
                due(l, grid.planned(drawn[0], drawn[1], drawn[2]), plain.planned(drawn[0], drawn[1], drawn[2]));
            }
            case "waits" -> {
                String l = label(name, rule(), demand());
                due(l, grid.waits(drawn[0], drawn[1]), plain.waits(drawn[0], drawn[1]));
            }
            case "unravel" -> {
                String l = label(name, rule(), near(0, 3));
                due(l, grid.unravel(drawn[0], drawn[1]), plain.unravel(drawn[0], drawn[1]));
            }
            case "trial" -> {
                String l = label(name, near(1, random.nextInt(9) == 0 ? 200 : 30), near(1, 64), rule(), near(0, 3));
                due(l, grid.trial(drawn[0], drawn[1], drawn[2], drawn[3]),
                    plain.trial(drawn[0], drawn[1], drawn[2], drawn[3]));
            }
            case "bestRule" -> {
                String l = label(name, near(1, 25), near(1, 64));
                due(l, grid.bestRule(drawn[0], drawn[1]), plain.bestRule(drawn[0], drawn[1]));
            }
            case "parts" -> {
                String l = label(name, node(), otherNode(), near(1, 64), rule());
                due(l, grid.parts(drawn[0], drawn[1], drawn[2], drawn[3]),
                    plain.parts(drawn[0], drawn[1], drawn[2], drawn[3]));
            }
            case "more" -> {
                String l = label(name, node(), otherNode(), rate(), rule());
                due(l, grid.more(drawn[0], drawn[1], drawn[2], drawn[3]),
                    plain.more(drawn[0], drawn[1], drawn[2], drawn[3]));
            }
            default -> {
                String l = label(name, link(), rule(), near(0, 2));
                due(l, grid.ifCut(drawn[0], drawn[1], drawn[2]), plain.ifCut(drawn[0], drawn[1], drawn[2]));
            }
        }
    }

    // ---- texts by draws ----

    private void tellGrid() {
        StringBuilder b = new StringBuilder();
        int nodes = 2 + random.nextInt(7);
        if (random.nextInt(4) == 0) {
            b.append(SHORT_TELLING[random.nextInt(SHORT_TELLING.length)]);
        }
        b.append("nodes ").append(nodes);
        if (random.nextInt(4) != 0) {
            b.append(";slots ").append(8 + random.nextInt(random.nextBoolean() ? 53 : 12));
        }
        if (random.nextInt(2) == 0) {
            b.append(";between ").append(random.nextInt(5));
        }
        if (random.nextInt(3) == 0) {
            b.append(";reach ").append(100 + random.nextInt(200)).append(" 99 ").append(30 + random.nextInt(60))
                .append(" ").append(random.nextInt(30));
        }
        int links = random.nextInt(5) == 0 ? 1 + random.nextInt(14) : 40;
        for (int i = 0; i < links && b.length() < 189; i++) {
            int p = random.nextInt(nodes);
            int q = random.nextInt(nodes);
            boolean careless = random.nextInt(150) == 0;
            boolean taken = p == q || b.indexOf("link " + p + " " + q + " ") >= 0
                || b.indexOf("link " + q + " " + p + " ") >= 0;
            if (careless || !taken) {
                b.append(";link ").append(p).append(' ').append(q).append(' ').append(1 + random.nextInt(
                    random.nextInt(4) != 0 ? 9 : 99));
            }
        }
        say(spoil(b.toString()), true);
    }

    private void tellWorks() {
        StringBuilder b = new StringBuilder();
        int steps = 1 + random.nextInt(random.nextInt(10) == 0 ? 26 : 8);
        for (int i = 0; i < steps; i++) {
            b.append(i == 0 ? "" : ";").append(switch (random.nextInt(14)) {
                case 0 -> "drop " + demand();
                case 1 -> "slide " + demand();
                case 2 -> "sweep";
                case 3 -> "jump " + demand() + " " + random.nextInt(plain.world.slots);
                case 4 -> "cut " + random.nextInt(15);
                case 5 -> "mend " + random.nextInt(15);
                case 6 -> "relight " + random.nextInt(4);
                case 7 -> "plan " + random.nextInt(4);
                case 8 -> "lasts " + demand() + " " + random.nextInt(20);
                case 9 -> "ticks " + random.nextInt(9);
                default -> "ask " + random.nextInt(plain.world.nodes) + " " + random.nextInt(plain.world.nodes)
                    + " " + random.nextInt(30) + " " + random.nextInt(4);
            });
        }
        say(spoil(b.toString()), false);
    }

    /** Now and then a byte is put, left out or changed. */
    private String spoil(String text) {
        if (random.nextInt(6) != 0) {
            return text;
        }
        StringBuilder b = new StringBuilder(text);
        int at = random.nextInt(b.length());
        String signs = "; 0123456789aklns" + (char) 200 + (char) 0;
        char sign = signs.charAt(random.nextInt(signs.length()));
        switch (random.nextInt(4)) {
            case 0 -> b.deleteCharAt(at);
            case 1 -> b.insert(at, sign);
            case 2 -> b.setCharAt(at, sign);
            default -> b.setLength(at);
        }
        return b.toString();
    }

    private void say(String text, boolean isGrid) {
        feedAll(text);
        int n = text.length();
        if (isGrid) {
            due("grid " + text, grid.grid(n), plain.grid(n));
        } else {
            due("works " + text, grid.works(n), plain.works(n));
        }
    }

    private void feedAll(String text) {
        if (plain.tape.size() > 0) {
            due("check 0", grid.check(0), plain.check(0));
        }
        for (int at = 0; at < text.length(); at += 20) {
            int[] five = new int[5];
            for (int i = 0; i < 20; i++) {
                int sign = at + i < text.length() ? text.charAt(at + i) : 'a';
                five[i / 4] |= sign << 24 - i % 4 * 8;
            }
            due("feed", grid.feed(five[0], five[1], five[2], five[3], five[4]), plain.feed(five));
        }
    }

    private void tellFirsts() {
        StringBuilder b = new StringBuilder();
        for (PlainGrid.Demand d : plain.world.demands) {
            b.append((char) (random.nextInt(80) == 0 ? random.nextInt(256) : d.state == 0 ? d.first : 255));
        }
        if (random.nextInt(10) == 0) {
            b.append((char) 255);
        }
        feedAll(b.toString());
        int n = random.nextInt(6) == 0 ? near(0, 41) : b.length();
        due("check " + n, grid.check(n), plain.check(n));
    }
}
