import java.util.ArrayList;
import java.util.Arrays;
import java.util.Collections;
import java.util.Comparator;
import java.util.List;
import java.util.Set;
import java.util.TreeSet;

/**
 * The document once more, in its plainest form and without a thought for speed: slot by slot, demand by
 * demand, all ways written out and sorted. RandomRunsTest holds FlexGrid's answers against these.
 */
final class PlainGrid {
    static final int NONE = -1;

    record Link(int p, int q, int length) { }

    record Way(List<Integer> nodes, List<Integer> links, int length) { }

    record Window(int k, Set<Integer> links, int first, int width) { }

    static final class Demand {
        int p;
        int q;
        int rate;
        int state;
        int end = -2;
        Set<Integer> links = new TreeSet<>();
        int first;
        int width;

        Demand copy() {
            Demand d = new Demand();
            d.p = p;
            d.q = q;
            d.rate = rate;
            d.state = state;
            d.end = end;
            d.links = new TreeSet<>(links);
            d.first = first;
            d.width = width;
            return d;
        }

        void stand(Set<Integer> on, int slot, int wide) {
            links = new TreeSet<>(on);
            first = slot;
            width = wide;
            state = 0;
        }
    }

    static final class World {
        int nodes = 2;
        int slots = 40;
        int between = 1;
        int[] reach = {200, 120, 80, 40};
        List<Link> links = new ArrayList<>();
        Set<Integer> cut = new TreeSet<>();
        List<Demand> demands = new ArrayList<>();
        int clock;
        int x = 1;
        int clauses;

        World copy() {
            World w = new World();
            w.nodes = nodes;
            w.slots = slots;
            w.between = between;
            w.reach = reach.clone();
            w.links = new ArrayList<>(links);
            w.cut = new TreeSet<>(cut);
            for (Demand d : demands) {
                w.demands.add(d.copy());
            }
            w.clock = clock;
            w.x = x;
            w.clauses = clauses;
            return w;
        }

        List<Way> ways(int p, int q) {
            List<Way> all = new ArrayList<>();
            spread(new ArrayList<>(List.of(p)), new ArrayList<>(), q, all);
            all.sort(Comparator.comparingInt(Way::length).thenComparingInt(w -> w.links().size())
                .thenComparing((a, b) -> {
                    for (int i = 0; i < a.nodes().size(); i++) {
                        int unlike = a.nodes().get(i) - b.nodes().get(i);
                        if (unlike != 0) {
                            return unlike;
                        }
                    }
                    return 0;
                }));
            return all.size() > 4 ? all.subList(0, 4) : all;
        }

        void spread(List<Integer> nodesSoFar, List<Integer> linksSoFar, int q, List<Way> all) {
            int last = nodesSoFar.get(nodesSoFar.size() - 1);
            if (last == q) {
                int length = 0;
                for (int l : linksSoFar) {
                    length += links.get(l).length();
                }
                all.add(new Way(List.copyOf(nodesSoFar), List.copyOf(linksSoFar), length));
                return;
            }
            for (int l = links.size() - 1; l >= 0; l--) {
                Link link = links.get(l);
                int next = link.p() == last ? link.q() : link.q() == last ? link.p() : -1;
                if (next < 0 || cut.contains(l) || nodesSoFar.contains(next)) {
                    continue;
                }
                nodesSoFar.add(next);
                linksSoFar.add(l);
                spread(nodesSoFar, linksSoFar, q, all);
                nodesSoFar.remove(nodesSoFar.size() - 1);
                linksSoFar.remove(linksSoFar.size() - 1);
            }
        }

        int format(int length) {
            int best = -1;
            for (int f = 0; f < 4; f++) {
                if (reach[f] >= length) {
                    best = f;
                }
            }
            return best;
        }

        int width(int rate, int format) {
            int w = 0;
            while (w * (format + 1) < rate) {
                w++;
            }
            return w;
        }

        boolean apart(Demand other, Set<Integer> on, int s, int v) {
            if (Collections.disjoint(other.links, on)) {
                return true;
            }
            for (int a = s; a < s + v; a++) {
                for (int b = other.first; b < other.first + other.width; b++) {
                    if (Math.abs(a - b) <= between) {
                        return false;
                    }
                }
            }
            return true;
        }

        boolean fits(Demand own, Set<Integer> on, int s, int v) {
            if (s < 0 || s + v > slots) {
                return false;
            }
            for (Demand d : demands) {
                if (d != own && d.state == 0 && !apart(d, on, s, v)) {
                    return false;
                }
            }
            return true;
        }

        boolean taken(int link, int slot) {
            for (Demand d : demands) {
                if (d.state == 0 && d.links.contains(link) && slot >= d.first && slot < d.first + d.width) {
                    return true;
                }
            }
            return false;
        }

        boolean freeOnAll(Set<Integer> on, int slot) {
            if (slot < 0 || slot >= slots) {
                return false;
            }
            for (int l : on) {
                if (taken(l, slot)) {
                    return false;
                }
            }
            return true;
        }

        int about(Set<Integer> on, int s, int v) {
            int low = s;
            while (freeOnAll(on, low - 1)) {
                low--;
            }
            int high = s + v;
            while (freeOnAll(on, high)) {
                high++;
            }
            return high - low;
        }

        Window find(int p, int q, int rate, int rule) {
            List<Window> all = new ArrayList<>();
            List<Way> ways = ways(p, q);
            for (int k = 0; k < ways.size(); k++) {
                int f = format(ways.get(k).length());
                if (f < 0) {
                    continue;
                }
                Set<Integer> on = new TreeSet<>(ways.get(k).links());
                int v = width(rate, f);
                for (int s = 0; s + v <= slots; s++) {
                    if (fits(null, on, s, v)) {
                        all.add(new Window(k, on, s, v));
                    }
                }
            }
            if (all.isEmpty()) {
                return null;
            }
            Comparator<Window> byWay = Comparator.comparingInt(Window::k);
            Comparator<Window> bySlot = Comparator.comparingInt(Window::first);
            Comparator<Window> tight = Comparator.comparingInt(w -> about(w.links(), w.first(), w.width()));
            Comparator<Window> order = switch (rule) {
                case 0 -> byWay.thenComparing(bySlot);
                case 1 -> bySlot.thenComparing(byWay);
                case 2 -> tight.thenComparing(byWay).thenComparing(bySlot);
                default -> byWay.thenComparing(bySlot.reversed());
            };
            return Collections.min(all, order);
        }

        int top() {
            int top = -1;
            for (Demand d : demands) {
                if (d.state == 0) {
                    top = Math.max(top, d.first + d.width - 1);
                }
            }
            return top;
        }

        int in(int state) {
            int n = 0;
            for (Demand d : demands) {
                n += d.state == state ? 1 : 0;
            }
            return n;
        }

        int slideRoom(Demand d) {
            int s = d.first;
            while (s > 0 && fits(d, d.links, s - 1, d.width)) {
                s--;
            }
            return d.first - s;
        }

        boolean canJump(Demand d, int slot) {
            boolean shares = slot < d.first + d.width && d.first < slot + d.width;
            return !shares && fits(d, d.links, slot, d.width);
        }

        int cutLink(int link) {
            cut.add(link);
            int n = 0;
            for (Demand d : demands) {
                if (d.state == 0 && d.links.contains(link)) {
                    d.state = 2;
                    n++;
                }
            }
            return n;
        }

        int lightAgain(int rule) {
            int n = 0;
            for (Demand d : demands) {
                if (d.state == 2) {
                    Window w = find(d.p, d.q, d.rate, rule);
                    if (w != null) {
                        d.stand(w.links(), w.first(), w.width());
                        n++;
                    }
                }
            }
            return n;
        }
    }

    World world = new World();
    World kept;
    final List<Integer> tape = new ArrayList<>();

    // ---- texts ----

    int feed(int... five) {
        if (tape.size() + 20 > 240) {
            return NONE;
        }
        for (int v : five) {
            for (int i = 3; i >= 0; i--) {
                tape.add(v >> 8 * i & 0xff);
            }
        }
        return tape.size();
    }

    private String text(int n) {
        StringBuilder b = new StringBuilder();
        for (int i = 0; i < n; i++) {
            b.append((char) (int) tape.get(i));
        }
        tape.clear();
        return b.toString();
    }

    /** A FAULT on its way to the caller. */
    @SuppressWarnings("serial")
    static final class Fault extends Exception {
        final int answer;

        Fault(int number, int place) {
            answer = -1000 * number - place;
        }
    }

    /** Where a number of a clause is judged as soon as it ends. */
    interface Judge {
        void word(String word, int place) throws Fault;

        void number(String word, List<Integer> so, int place) throws Fault;
    }

    private static List<List<Object>> parse(String t, List<String> shapes, Judge judge) throws Fault {
        List<List<Object>> clauses = new ArrayList<>();
        int at = 0;
        while (true) {
            if (clauses.size() == 24) {
                throw new Fault(4, at);
            }
            int from = at;
            while (at < t.length() && "abcdefghijklmnopqrstuvwxyz".indexOf(t.charAt(at)) >= 0) {
                at++;
            }
            String word = t.substring(from, at);
            int due = -1;
            for (String shape : shapes) {
                if (shape.split(" ")[0].equals(word)) {
                    due = shape.split(" ").length - 1;
                }
            }
            if (due < 0) {
                throw new Fault(1, from);
            }
            judge.word(word, from);
            List<Integer> numbers = new ArrayList<>();
            for (int i = 0; i < due; i++) {
                if (at >= t.length() || t.charAt(at) != ' ') {
                    throw new Fault(1, at);
                }
                int first = at + 1;
                at = first;
                while (at < t.length() && "0123456789".indexOf(t.charAt(at)) >= 0) {
                    if (at == first + 5) {
                        throw new Fault(2, at);
                    }
                    at++;
                }
                if (at == first) {
                    throw new Fault(1, at);
                }
                numbers.add(Integer.parseInt(t.substring(first, at)));
                judge.number(word, numbers, first);
            }
            List<Object> clause = new ArrayList<>();
            clause.add(word);
            clause.addAll(numbers);
            clauses.add(clause);
            if (at == t.length()) {
                return clauses;
            }
            if (t.charAt(at) != ';') {
                throw new Fault(1, at);
            }
            at++;
        }
    }

    private static final class GridJudge implements Judge {
        final World w = new World();

        @Override
        public void word(String word, int place) throws Fault {
            if (word.equals("link") && w.links.size() == 14) {
                throw new Fault(6, place);
            }
        }

        @Override
        public void number(String word, List<Integer> so, int place) throws Fault {
            int i = so.size() - 1;
            int v = so.get(i);
            boolean right = switch (word) {
                case "nodes" -> v >= 2 && v <= 8 && w.links.isEmpty();
                case "slots" -> v >= 8 && v <= 60;
                case "between" -> v <= 4;
                case "reach" -> v <= 999 && (i == 0 || v <= so.get(i - 1));
                default -> i == 2 ? v >= 1 && v <= 99 : v < w.nodes;
            };
            if (!right) {
                throw new Fault(3, place);
            }
            switch (word) {
                case "nodes" -> w.nodes = v;
                case "slots" -> w.slots = v;
                case "between" -> w.between = v;
                case "reach" -> w.reach[i] = v;
                default -> link(so, place);
            }
        }

        private void link(List<Integer> so, int place) throws Fault {
            if (so.size() == 2) {
                for (Link l : w.links) {
                    if (Set.of(l.p(), l.q()).equals(new TreeSet<>(so))) {
                        throw new Fault(6, place);
                    }
                }
                if (so.get(0).equals(so.get(1))) {
                    throw new Fault(6, place);
                }
            }
            if (so.size() == 3) {
                w.links.add(new Link(so.get(0), so.get(1), so.get(2)));
            }
        }
    }

    int grid(int n) {
        if (n < 1 || n > 200 || tape.size() < n) {
            return NONE;
        }
        GridJudge judge = new GridJudge();
        try {
            List<List<Object>> clauses = parse(text(n), List.of("nodes N", "slots N", "between N",
                "reach N N N N", "link P Q L"), judge);
            judge.w.x = world.x;
            judge.w.clauses = clauses.size();
            world = judge.w;
            return clauses.size();
        } catch (Fault f) {
            return f.answer;
        }
    }

    private static final class WorksJudge implements Judge {
        @Override
        public void word(String word, int place) {
            // every word of WORKS may stand anywhere
        }

        @Override
        public void number(String word, List<Integer> so, int place) throws Fault {
            boolean rule = word.equals("ask") && so.size() == 4 || word.equals("relight") || word.equals("plan");
            if (so.get(so.size() - 1) > (rule ? 3 : 99)) {
                throw new Fault(3, place);
            }
        }
    }

    int works(int n) {
        if (n < 1 || n > 200 || tape.size() < n) {
            return NONE;
        }
        try {
            List<List<Object>> steps = parse(text(n), List.of("ask P Q R U", "drop D", "slide D", "sweep",
                "jump D S", "cut L", "mend L", "relight U", "plan U", "lasts D N", "ticks N"), new WorksJudge());
            int done = 0;
            for (List<Object> step : steps) {
                if (!step(step)) {
                    break;
                }
                done++;
            }
            return done;
        } catch (Fault f) {
            return f.answer;
        }
    }

    private boolean step(List<Object> step) {
        int[] a = new int[4];
        for (int i = 1; i < step.size(); i++) {
            a[i - 1] = (Integer) step.get(i);
        }
        switch ((String) step.get(0)) {
            case "ask": {
                int r = ask(a[0], a[1], a[2], a[3]);
                return r >= 0 || r == -2;
            }
            case "drop":
                return drop(a[0]);
            case "slide":
                return slide(a[0]) != NONE;
            case "sweep":
                sweep();
                return true;
            case "jump":
                return jump(a[0], a[1]) > -1000;
            case "cut":
                return cut(a[0]) >= 0;
            case "mend":
                return mend(a[0]);
            case "relight":
                return relight(a[0]) >= 0;
            case "plan":
                return plan(a[0]) >= 0;
            case "lasts":
                return lasts(a[0], a[1]) > 0;
            default:
                return ticks(a[0]) >= 0;
        }
    }

    // ---- what changes ----

    private boolean wish(int p, int q, int rate) {
        return p >= 0 && q >= 0 && p < world.nodes && q < world.nodes && p != q && rate >= 1 && rate <= 64;
    }

    private static boolean rule(int rule) {
        return rule >= 0 && rule <= 3;
    }

    private Demand demand(int i) {
        return i >= 0 && i < world.demands.size() ? world.demands.get(i) : null;
    }

    private Demand lit(int i) {
        Demand d = demand(i);
        return d != null && d.state == 0 ? d : null;
    }

    int ask(int p, int q, int rate, int rule) {
        if (!wish(p, q, rate) || !rule(rule)) {
            return NONE;
        }
        if (world.demands.size() == 40) {
            return -3;
        }
        Window w = world.find(p, q, rate, rule);
        Demand d = new Demand();
        d.p = p;
        d.q = q;
        d.rate = rate;
        d.state = 1;
        world.demands.add(d);
        if (w == null) {
            return -2;
        }
        d.stand(w.links(), w.first(), w.width());
        return world.demands.size() - 1;
    }

    boolean drop(int i) {
        Demand d = demand(i);
        if (d == null || d.state == 3) {
            return false;
        }
        d.state = 3;
        return true;
    }

    int slide(int i) {
        Demand d = lit(i);
        if (d == null) {
            return NONE;
        }
        int far = world.slideRoom(d);
        d.first -= far;
        return far;
    }

    int sweep() {
        List<Demand> order = new ArrayList<>();
        for (Demand d : world.demands) {
            if (d.state == 0) {
                order.add(d);
            }
        }
        order.sort(Comparator.comparingInt(d -> d.first));
        int moved = 0;
        for (Demand d : order) {
            int far = world.slideRoom(d);
            d.first -= far;
            moved += far > 0 ? 1 : 0;
        }
        return moved;
    }

    int sweeps() {
        int n = 0;
        while (sweep() > 0) {
            n++;
        }
        return n;
    }

    int jump(int i, int slot) {
        Demand d = lit(i);
        if (d == null || slot < 0 || slot >= world.slots || slot + d.width > world.slots) {
            return -1000;
        }
        if (!world.canJump(d, slot)) {
            return -1001;
        }
        int lower = d.first - slot;
        d.first = slot;
        return lower;
    }

    private boolean link(int l) {
        return l >= 0 && l < world.links.size();
    }

    int cut(int l) {
        if (!link(l)) {
            return NONE;
        }
        return world.cut.contains(l) ? -2 : world.cutLink(l);
    }

    boolean mend(int l) {
        return link(l) && world.cut.remove(l);
    }

    int relight(int rule) {
        return rule(rule) ? world.lightAgain(rule) : NONE;
    }

    int lasts(int i, int n) {
        Demand d = demand(i);
        if (d == null || d.state != 0 && d.state != 2 || n < 1 || n > 9999) {
            return NONE;
        }
        d.end = world.clock + n;
        return d.end;
    }

    int ticks(int n) {
        if (n < 1 || n > 1000) {
            return NONE;
        }
        if (world.clock + n > 99999) {
            return -3;
        }
        int gone = 0;
        for (int i = 0; i < n; i++) {
            world.clock++;
            for (Demand d : world.demands) {
                if ((d.state == 0 || d.state == 2) && d.end == world.clock) {
                    d.state = 3;
                    gone++;
                }
            }
        }
        return gone;
    }

    boolean seed(int x) {
        if (x < 0 || x >= 65536) {
            return false;
        }
        world.x = x;
        return true;
    }

    // ---- what is asked ----

    private static int bits(Iterable<Integer> links) {
        int b = 0;
        for (int l : links) {
            b += 1 << l;
        }
        return b;
    }

    int gridIs(int what) {
        if (what >= 20 && what <= 23) {
            return world.reach[what - 20];
        }
        int used = 0;
        int up = 0;
        for (int l = 0; l < world.links.size(); l++) {
            for (int s = 0; s < world.slots; s++) {
                used += world.taken(l, s) ? 1 : 0;
            }
            up += world.cut.contains(l) ? 0 : 1 << l;
        }
        int[] all = {world.nodes, world.slots, world.between, world.links.size(), up, world.demands.size(),
            world.in(0), world.in(1), world.in(2), world.in(3), world.top(), used, world.clock, world.x};
        return what >= 0 && what < all.length ? all[what] : -2;
    }

    int linkIs(int l, int what) {
        if (!link(l) || what < 0 || what > 9 && what < 21 || what > 84) {
            return NONE;
        }
        List<Integer> rows = new ArrayList<>();
        int row = 0;
        int free = 0;
        int top = -2;
        for (int s = 0; s <= world.slots; s++) {
            if (s < world.slots && !world.taken(l, s)) {
                row++;
                free++;
                continue;
            }
            if (s < world.slots) {
                top = s;
            }
            if (row > 0) {
                rows.add(row);
            }
            row = 0;
        }
        int longest = rows.isEmpty() ? 0 : Collections.max(rows);
        int on = 0;
        for (Demand d : world.demands) {
            on += d.state == 0 && d.links.contains(l) ? 1 : 0;
        }
        if (what > 20) {
            int room = 0;
            for (int r : rows) {
                room += Math.max(0, r - (what - 20) + 1);
            }
            return room;
        }
        int torn = free == 0 ? 0 : 10000 * (free - longest) / free;
        Link link = world.links.get(l);
        int[] all = {link.p(), link.q(), link.length(), world.cut.contains(l) ? 0 : 1, world.slots - free, top,
            longest, rows.size(), torn, on};
        return all[what];
    }

    int demandIs(int i, int what) {
        Demand d = demand(i);
        if (d == null || what < 0 || what > 11) {
            return NONE;
        }
        if (what == 11) {
            return d.state == 0 || d.state == 2 ? d.end : -2;
        }
        if (what <= 3) {
            return new int[] {d.p, d.q, d.rate, d.state}[what];
        }
        if (d.state != 0) {
            return -2;
        }
        int length = 0;
        for (int l : d.links) {
            length += world.links.get(l).length();
        }
        return new int[] {d.first, d.width, d.links.size(), bits(d.links), length, world.format(length),
            world.slideRoom(d)}[what - 4];
    }

    int way(int p, int q, int k, int what) {
        if (!wish(p, q, 1) || k < 0 || k > 3 || what < 0 || what > 4) {
            return NONE;
        }
        List<Way> ways = world.ways(p, q);
        if (what == 4) {
            return ways.size();
        }
        if (k >= ways.size()) {
            return -2;
        }
        Way w = ways.get(k);
        int f = world.format(w.length());
        return new int[] {w.length(), w.links().size(), bits(w.links()), f < 0 ? -2 : f}[what];
    }

    int found(int p, int q, int rate, int rule, int what) {
        if (!wish(p, q, rate) || !rule(rule) || what < 0 || what > 2) {
            return NONE;
        }
        Window w = world.find(p, q, rate, rule);
        return w == null ? -2 : new int[] {w.k(), w.first(), w.width()}[what];
    }

    int witness(int p, int q, int rate, int k, int slot) {
        if (!wish(p, q, rate) || k < 0 || k > 3 || slot < 0 || slot >= world.slots) {
            return NONE;
        }
        List<Way> ways = world.ways(p, q);
        if (k >= ways.size() || world.format(ways.get(k).length()) < 0) {
            return -4;
        }
        int v = world.width(rate, world.format(ways.get(k).length()));
        if (slot + v > world.slots) {
            return -3;
        }
        for (int i = 0; i < world.demands.size(); i++) {
            Demand d = world.demands.get(i);
            if (d.state == 0 && !world.apart(d, new TreeSet<>(ways.get(k).links()), slot, v)) {
                return i;
            }
        }
        return -2;
    }

    int blocked(int p, int q, int rate, int what) {
        if (!wish(p, q, rate) || what < 0 || what > 2) {
            return NONE;
        }
        if (what == 0) {
            return world.find(p, q, rate, 1) == null ? 1 : 0;
        }
        Set<Integer> who = new TreeSet<>();
        Set<Integer> shared = null;
        List<Way> ways = world.ways(p, q);
        for (int k = 0; k < ways.size(); k++) {
            if (world.format(ways.get(k).length()) >= 0) {
                for (int s = 0; s < world.slots; s++) {
                    who.add(witness(p, q, rate, k, s));
                }
                if (shared == null) {
                    shared = new TreeSet<>(ways.get(k).links());
                }
                shared.retainAll(ways.get(k).links());
            }
        }
        who.removeIf(w -> w < 0);
        if (shared == null) {
            return -4;
        }
        return what == 1 ? who.size() : bits(shared);
    }

    // ---- repack ----

    /** All laid anew; null if it is spoiled. Demands that are not LIT are as they were. */
    private World targets(int rule) {
        World aim = world.copy();
        for (Demand d : aim.demands) {
            d.state += 10;
        }
        for (int i = 0; i < aim.demands.size(); i++) {
            Demand d = aim.demands.get(i);
            if (d.state != 10) {
                continue;
            }
            Window w = aim.find(d.p, d.q, d.rate, rule);
            if (w != null) {
                d.stand(w.links(), w.first(), w.width());
            } else if (aim.fits(d, d.links, d.first, d.width)) {
                d.state = 0;
            } else {
                return null;
            }
        }
        for (Demand d : aim.demands) {
            d.state %= 10;
        }
        return aim;
    }

    private static boolean alike(Demand a, Demand b) {
        return a.links.equals(b.links) && a.first == b.first && a.width == b.width;
    }

    private Set<Integer> moves(World aim) {
        Set<Integer> moves = new TreeSet<>();
        for (int i = 0; i < world.demands.size(); i++) {
            if (lit(i) != null && !alike(lit(i), aim.demands.get(i))) {
                moves.add(i);
            }
        }
        return moves;
    }

    private static Set<Integer> waitsFor(World now, World aim, int i) {
        Set<Integer> who = new TreeSet<>();
        Demand t = aim.demands.get(i);
        for (int j = 0; j < now.demands.size(); j++) {
            Demand other = now.demands.get(j);
            if (j != i && other.state == 0 && !now.apart(other, t.links, t.first, t.width)) {
                who.add(j);
            }
        }
        return who;
    }

    private static List<Integer> carry(World now, World aim, Set<Integer> left) {
        List<Integer> done = new ArrayList<>();
        boolean on = true;
        while (on) {
            on = false;
            for (int i : left) {
                if (waitsFor(now, aim, i).isEmpty()) {
                    Demand t = aim.demands.get(i);
                    now.demands.get(i).stand(t.links, t.first, t.width);
                    left.remove(i);
                    done.add(i);
                    on = true;
                    break;
                }
            }
        }
        return done;
    }

    int plan(int rule) {
        if (!rule(rule)) {
            return NONE;
        }
        World aim = targets(rule);
        return aim == null ? -2 : carry(world, aim, moves(aim)).size();
    }

    int repack(int rule, int what) {
        if (!rule(rule) || what < 0 || what > 5) {
            return NONE;
        }
        World aim = targets(rule);
        if (aim == null) {
            return -2;
        }
        Set<Integer> moves = moves(aim);
        int round = 0;
        for (int i : moves) {
            Set<Integer> reached = new TreeSet<>(waitsFor(world, aim, i));
            boolean grows = true;
            while (grows) {
                Set<Integer> next = new TreeSet<>(reached);
                for (int j : reached) {
                    if (moves.contains(j)) {
                        next.addAll(waitsFor(world, aim, j));
                    }
                }
                grows = next.size() > reached.size();
                reached = next;
            }
            round += reached.contains(i) ? 1 : 0;
        }
        World now = world.copy();
        Set<Integer> left = new TreeSet<>(moves);
        int done = carry(now, aim, left).size();
        return new int[] {aim.top(), moves.size(), done, left.size(), now.top(), round}[what];
    }

    int planned(int rule, int i, int what) {
        if (!rule(rule) || i < 0 || what < 0 || what > 2) {
            return NONE;
        }
        World aim = targets(rule);
        if (aim == null) {
            return -2;
        }
        List<Integer> done = carry(world.copy(), aim, moves(aim));
        if (i >= done.size()) {
            return -4;
        }
        Demand t = aim.demands.get(done.get(i));
        return new int[] {done.get(i), t.first, bits(t.links)}[what];
    }

    int waits(int rule, int i) {
        if (!rule(rule) || demand(i) == null) {
            return NONE;
        }
        World aim = targets(rule);
        if (aim == null) {
            return -2;
        }
        return moves(aim).contains(i) ? waitsFor(world, aim, i).size() : -4;
    }

    int unravel(int rule, int what) {
        if (!rule(rule) || what < 0 || what > 3) {
            return NONE;
        }
        World aim = targets(rule);
        if (aim == null) {
            return -2;
        }
        World now = world.copy();
        Set<Integer> left = moves(aim);
        Set<Integer> parked = new TreeSet<>();
        int done = 0;
        boolean on = true;
        while (on) {
            done += carry(now, aim, left).size();
            on = false;
            for (int i : left) {
                int slot = parked.contains(i) ? -1 : lowestJump(now, now.demands.get(i));
                if (slot >= 0) {
                    now.demands.get(i).first = slot;
                    parked.add(i);
                    on = true;
                    break;
                }
            }
        }
        return new int[] {parked.size(), done, left.size(), now.top()}[what];
    }

    private static int lowestJump(World now, Demand d) {
        for (int s = 0; s < now.slots; s++) {
            if (now.canJump(d, s)) {
                return s;
            }
        }
        return -1;
    }

    // ---- trials and the rest ----

    int trial(int n, int load, int rule, int what) {
        if (n < 1 || n > 200 || load < 1 || load > 64 || !rule(rule) || what < 0 || what > 3) {
            return -2;
        }
        World w = world.copy();
        w.demands.clear();
        long x = w.x;
        int blocked = 0;
        int rates = 0;
        int top = -1;
        for (int t = 0; t < n; t++) {
            for (Demand d : w.demands) {
                if (d.end == t) {
                    d.state = 3;
                }
            }
            x = (25173 * x + 13849) % 65536;
            int p = (int) (x % w.nodes);
            x = (25173 * x + 13849) % 65536;
            int q = (int) ((p + 1 + x % (w.nodes - 1)) % w.nodes);
            x = (25173 * x + 13849) % 65536;
            int rate = (int) (1 + x % load);
            x = (25173 * x + 13849) % 65536;
            int end = (int) (t + 1 + x % 20);
            Window win = w.find(p, q, rate, rule);
            if (win == null) {
                blocked++;
                rates += rate;
            } else {
                Demand d = new Demand();
                d.stand(win.links(), win.first(), win.width());
                d.end = end;
                w.demands.add(d);
            }
            top = Math.max(top, w.top());
        }
        return new int[] {blocked, rates, top, w.in(0)}[what];
    }

    int bestRule(int n, int load) {
        int[] blocked = new int[4];
        for (int rule = 0; rule < 4; rule++) {
            blocked[rule] = trial(n, load, rule, 0);
            if (blocked[rule] == -2) {
                return -2;
            }
        }
        int fewest = Arrays.stream(blocked).min().getAsInt();
        int best = 0;
        while (blocked[best] != fewest) {
            best++;
        }
        return best;
    }

    private static void lay(World w, Window win) {
        Demand d = new Demand();
        d.stand(win.links(), win.first(), win.width());
        w.demands.add(d);
    }

    int parts(int p, int q, int rate, int rule) {
        if (!wish(p, q, rate) || !rule(rule)) {
            return NONE;
        }
        World w = world.copy();
        int left = rate;
        for (int n = 0; n <= 20; n++) {
            if (left == 0) {
                return n;
            }
            int r = left;
            while (r > 0 && w.find(p, q, r, rule) == null) {
                r--;
            }
            if (r == 0) {
                return -2;
            }
            lay(w, w.find(p, q, r, rule));
            left -= r;
        }
        return -2;
    }

    int more(int p, int q, int rate, int rule) {
        if (!wish(p, q, rate) || !rule(rule)) {
            return NONE;
        }
        World w = world.copy();
        int n = 0;
        Window win = w.find(p, q, rate, rule);
        while (win != null) {
            lay(w, win);
            n++;
            win = w.find(p, q, rate, rule);
        }
        return n;
    }

    int ifCut(int l, int rule, int what) {
        if (!link(l) || !rule(rule) || what < 0 || what > 2) {
            return NONE;
        }
        if (world.cut.contains(l)) {
            return -2;
        }
        World w = world.copy();
        int dark = w.cutLink(l);
        int again = w.lightAgain(rule);
        return new int[] {dark, again, w.top()}[what];
    }

    int keep() {
        kept = world.copy();
        return world.demands.size();
    }

    boolean undo() {
        if (kept == null) {
            return false;
        }
        world = kept.copy();
        return true;
    }

    int check(int n) {
        if (n < 0 || n > 40 || tape.size() < n) {
            return -2;
        }
        List<Integer> said = new ArrayList<>(tape.subList(0, n));
        tape.clear();
        for (int i = 0; i < n; i++) {
            if (i >= world.demands.size()) {
                return i;
            }
            int first = lit(i) != null ? lit(i).first : 255;
            if (said.get(i) != first) {
                return i;
            }
        }
        return NONE;
    }

    int count(int what) {
        return switch (what) {
            case 0 -> world.demands.size();
            case 1 -> tape.size();
            case 2 -> world.clauses;
            default -> NONE;
        };
    }
}
