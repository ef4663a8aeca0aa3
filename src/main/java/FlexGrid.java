/**
 * A flexible optical grid: nodes, links of slots, and demands that take the same slots on every link of
 * their way. The words in capitals are those of the document.
 *
 * Slots of a link are bits of a long (there are 60 at most), LINKS are bits of an int (14 at most). All
 * rows are made in the constructors and used again, since no call may leave objects behind.
 */
public final class FlexGrid {
    public static final int NONE = -1;

    private static final int MOST_NODES = 8;
    private static final int MOST_SLOTS = 60;
    private static final int MOST_LINKS = 14;
    private static final int MOST_WAYS = 4;
    private static final int MOST_DEMANDS = 40;
    private static final int MOST_RATE = 64;
    private static final int MOST_PARTS = 20;
    private static final int MOST_TICKS = 1000;
    private static final int MOST_LASTING = 9999;
    private static final int LAST_TIME = 99999;
    private static final int MOST_TRIAL_TIMES = 200;
    private static final int FORMATS = 4;
    private static final int MOST_TAPE = 240;
    private static final int MOST_TEXT = 200;

    private static final int FIRST_WAY_LOW = 0;
    private static final int TIGHTEST = 2;
    private static final int FIRST_WAY_HIGH = 3;

    private static final int LIT = 0;
    private static final int BLOCKED = 1;
    private static final int DARK = 2;
    private static final int GONE = 3;

    private static final int NOT_THERE = -1000;
    private static final int NO_FIT = -1001;
    private static final int NOT_LIT_BYTE = 255;

    private final Tape tape;
    private final Reader reader;
    private final Finder finder;
    private final State state;
    private final State kept;
    private final State thought;
    private final Repacking repacking;
    private final Trial trying;
    private boolean isKept;

    public FlexGrid() {
        tape = new Tape();
        reader = new Reader(tape);
        finder = new Finder();
        state = new State();
        kept = new State();
        thought = new State();
        repacking = new Repacking(thought, finder);
        trying = new Trial(thought, finder);
        isKept = false;
    }

    // ---- texts ----

    public int feed(int a, int b, int c, int d, int e) {
        if (tape.size + 20 > MOST_TAPE) {
            return NONE;
        }
        tape.append(a);
        tape.append(b);
        tape.append(c);
        tape.append(d);
        tape.append(e);
        return tape.size;
    }

    public int grid(int n) {
        if (!isText(n)) {
            return NONE;
        }
        int answer = reader.readText(n, true);
        tape.size = 0;
        if (answer >= 0) {
            state.beginWith(reader.draft);
            finder.forgetWays();
        }
        return answer;
    }

    public int works(int n) {
        if (!isText(n)) {
            return NONE;
        }
        int answer = reader.readText(n, false);
        tape.size = 0;
        if (answer < 0) {
            return answer;
        }
        int done = 0;
        while (done < answer && stepIsDone(done)) {
            done++;
        }
        return done;
    }

    private boolean isText(int n) {
        return n >= 1 && n <= MOST_TEXT && n <= tape.size;
    }

    private boolean stepIsDone(int step) {
        int a = reader.numberOf(step, 0);
        int b = reader.numberOf(step, 1);
        switch (reader.wordOf(step)) {
            case Reader.ASK:
                int lit = ask(a, b, reader.numberOf(step, 2), reader.numberOf(step, 3));
                return lit >= 0 || lit == -2;
            case Reader.DROP:
                return drop(a);
            case Reader.SLIDE:
                return slide(a) >= 0;
            case Reader.SWEEP:
                return sweep() >= 0;
            case Reader.JUMP:
                return jump(a, b) > NOT_THERE;
            case Reader.CUT:
                return cut(a) >= 0;
            case Reader.MEND:
                return mend(a);
            case Reader.RELIGHT:
                return relight(a) >= 0;
            case Reader.PLAN:
                return plan(a) >= 0;
            case Reader.LASTS:
                return lasts(a, b) >= 0;
            case Reader.TICKS:
                return ticks(a) >= 0;
            default:
                return false;
        }
    }

    // ---- demands come, move and go ----

    public int ask(int from, int to, int rate, int rule) {
        if (!isWish(from, to, rate) || !isRule(rule)) {
            return NONE;
        }
        if (state.demands >= MOST_DEMANDS) {
            return -3;
        }
        int number = state.add(from, to, rate);
        if (!finder.find(state, from, to, rate, rule)) {
            return -2;
        }
        state.put(number, finder.links, finder.first, finder.width);
        return number;
    }

    public boolean drop(int demand) {
        if (!state.has(demand) || state.status[demand] == GONE) {
            return false;
        }
        state.takeOff(demand, GONE);
        return true;
    }

    public int slide(int demand) {
        if (!state.isLit(demand)) {
            return NONE;
        }
        return slideDown(demand);
    }

    private int slideDown(int demand) {
        int far = state.slideRoom(demand);
        if (far > 0) {
            state.move(demand, state.links[demand], state.first[demand] - far, state.width[demand]);
        }
        return far;
    }

    public int sweep() {
        int lit = state.orderByFirst();
        int moved = 0;
        for (int i = 0; i < lit; i++) {
            if (slideDown(state.order[i]) > 0) {
                moved++;
            }
        }
        return moved;
    }

    public int sweeps() {
        // A sweep that moves some lowers a FIRST, so there are never more than these.
        int most = MOST_DEMANDS * MOST_SLOTS;
        int moving = 0;
        while (moving < most && sweep() > 0) {
            moving++;
        }
        return moving;
    }

    public int jump(int demand, int slot) {
        if (!state.isLit(demand) || slot < 0 || slot >= state.net.slots) {
            return NOT_THERE;
        }
        int width = state.width[demand];
        if (slot + width > state.net.slots) {
            return NOT_THERE;
        }
        if ((state.landings(demand) >>> slot & 1L) == 0) {
            return NO_FIT;
        }
        int lower = state.first[demand] - slot;
        state.move(demand, state.links[demand], slot, width);
        return lower;
    }

    // ---- links cut, demands lit again ----

    public int cut(int link) {
        if (!state.hasLink(link)) {
            return NONE;
        }
        if (!state.isUp(link)) {
            return -2;
        }
        return state.sever(link);
    }

    public boolean mend(int link) {
        if (!state.hasLink(link) || state.isUp(link)) {
            return false;
        }
        state.up |= 1 << link;
        return true;
    }

    public int relight(int rule) {
        if (!isRule(rule)) {
            return NONE;
        }
        return lightAll(state, rule);
    }

    private int lightAll(State s, int rule) {
        int again = 0;
        for (int i = 0; i < s.demands; i++) {
            if (s.status[i] == DARK && finder.find(s, s.from[i], s.to[i], s.rate[i], rule)) {
                s.put(i, finder.links, finder.first, finder.width);
                again++;
            }
        }
        return again;
    }

    public int ifCut(int link, int rule, int what) {
        if (!state.hasLink(link) || !isRule(rule) || what < 0 || what > 2) {
            return NONE;
        }
        if (!state.isUp(link)) {
            return -2;
        }
        thought.copy(state);
        int dark = thought.sever(link);
        if (what == 0) {
            return dark;
        }
        int again = lightAll(thought, rule);
        return what == 1 ? again : thought.top();
    }

    // ---- the clock and the seed ----

    public int lasts(int demand, int n) {
        if (n < 1 || n > MOST_LASTING || !state.isLitOrDark(demand)) {
            return NONE;
        }
        state.end[demand] = state.clock + n;
        return state.end[demand];
    }

    public int ticks(int n) {
        if (n < 1 || n > MOST_TICKS) {
            return NONE;
        }
        if (state.clock + n > LAST_TIME) {
            return -3;
        }
        state.clock += n;
        return state.endThoseDue();
    }

    public boolean seed(int x) {
        if (x < 0 || x > 65535) {
            return false;
        }
        state.x = x;
        return true;
    }

    // ---- what is there ----

    public int gridIs(int what) {
        Net net = state.net;
        if (what >= 20 && what < 20 + FORMATS) {
            return net.reach[what - 20];
        }
        switch (what) {
            case 0:
                return net.nodes;
            case 1:
                return net.slots;
            case 2:
                return net.between;
            case 3:
                return net.links;
            case 4:
                return state.up;
            case 5:
                return state.demands;
            case 6:
                return state.howMany(LIT);
            case 7:
                return state.howMany(BLOCKED);
            case 8:
                return state.howMany(DARK);
            case 9:
                return state.howMany(GONE);
            case 10:
                return state.top();
            case 11:
                return state.slotsUsed();
            case 12:
                return state.clock;
            case 13:
                return state.x;
            default:
                return -2;
        }
    }

    public int linkIs(int link, int what) {
        if (!state.hasLink(link)) {
            return NONE;
        }
        long used = state.used[link];
        if (what > 20 && what <= 20 + MOST_RATE) {
            return Long.bitCount(rowStarts(state.net.allSlots() & ~used, what - 20));
        }
        switch (what) {
            case 0:
                return state.net.oneEnd[link];
            case 1:
                return state.net.otherEnd[link];
            case 2:
                return state.net.length[link];
            case 3:
                return state.isUp(link) ? 1 : 0;
            case 4:
                return Long.bitCount(used);
            case 5:
                return used == 0 ? -2 : highest(used);
            case 6:
                return longestFree(link);
            case 7:
                return freeRows(link);
            case 8:
                return torn(link);
            case 9:
                return state.litOn(link);
            default:
                return NONE;
        }
    }

    private int longestFree(int link) {
        long used = state.used[link];
        int longest = 0;
        int row = 0;
        for (int slot = 0; slot < state.net.slots; slot++) {
            row = (used >>> slot & 1L) == 0 ? row + 1 : 0;
            longest = Math.max(longest, row);
        }
        return longest;
    }

    private int freeRows(int link) {
        long free = state.net.allSlots() & ~state.used[link];
        return Long.bitCount(free & ~(free << 1));
    }

    private int torn(int link) {
        int free = Long.bitCount(state.net.allSlots() & ~state.used[link]);
        if (free <= 0) {
            return 0;
        }
        return (free - longestFree(link)) * 10000 / free;
    }

    public int demandIs(int demand, int what) {
        if (!state.has(demand) || what < 0 || what > 11) {
            return NONE;
        }
        switch (what) {
            case 0:
                return state.from[demand];
            case 1:
                return state.to[demand];
            case 2:
                return state.rate[demand];
            case 3:
                return state.status[demand];
            case 11:
                return state.isLitOrDark(demand) && state.end[demand] >= 0 ? state.end[demand] : -2;
            default:
                return state.isLit(demand) ? litDemandIs(demand, what) : -2;
        }
    }

    private int litDemandIs(int demand, int what) {
        int links = state.links[demand];
        switch (what) {
            case 4:
                return state.first[demand];
            case 5:
                return state.width[demand];
            case 6:
                return Integer.bitCount(links);
            case 7:
                return links;
            case 8:
                return state.net.lengthOf(links);
            case 9:
                return state.net.formatOf(state.net.lengthOf(links));
            default:
                return state.slideRoom(demand);
        }
    }

    // ---- ways and windows ----

    public int way(int from, int to, int k, int what) {
        if (!arePlaces(from, to) || k < 0 || k >= MOST_WAYS || what < 0 || what > 4) {
            return NONE;
        }
        Ways ways = finder.ways;
        int pair = ways.pairOf(state, from, to);
        if (what == 4) {
            return ways.known[pair];
        }
        if (k >= ways.known[pair]) {
            return -2;
        }
        int place = pair * MOST_WAYS + k;
        switch (what) {
            case 0:
                return ways.length[place];
            case 1:
                return ways.many[place];
            case 2:
                return ways.links[place];
            default:
                int format = state.net.formatOf(ways.length[place]);
                return format < 0 ? -2 : format;
        }
    }

    public int found(int from, int to, int rate, int rule, int what) {
        if (!isWish(from, to, rate) || !isRule(rule) || what < 0 || what > 2) {
            return NONE;
        }
        if (!finder.find(state, from, to, rate, rule)) {
            return -2;
        }
        if (what == 0) {
            return finder.way;
        }
        return what == 1 ? finder.first : finder.width;
    }

    public int witness(int from, int to, int rate, int k, int slot) {
        if (!isWish(from, to, rate) || k < 0 || k >= MOST_WAYS || slot < 0 || slot >= state.net.slots) {
            return NONE;
        }
        int pair = finder.ways.pairOf(state, from, to);
        int place = pair * MOST_WAYS + k;
        int width = k < finder.ways.known[pair] ? state.net.widthOf(rate, finder.ways.length[place]) : 0;
        if (width == 0) {
            return -4;
        }
        if (slot + width > state.net.slots) {
            return -3;
        }
        int who = state.inTheWay(finder.ways.links[place], slot, width);
        return who < 0 ? -2 : who;
    }

    public int blocked(int from, int to, int rate, int what) {
        if (!isWish(from, to, rate) || what < 0 || what > 2) {
            return NONE;
        }
        if (what == 0) {
            return finder.find(state, from, to, rate, FIRST_WAY_LOW) ? 0 : 1;
        }
        int pair = finder.ways.pairOf(state, from, to);
        boolean carries = false;
        int shared = (1 << MOST_LINKS) - 1;
        long witnesses = 0;
        for (int k = 0; k < finder.ways.known[pair]; k++) {
            int links = finder.ways.links[pair * MOST_WAYS + k];
            int width = state.net.widthOf(rate, finder.ways.length[pair * MOST_WAYS + k]);
            if (width > 0) {
                carries = true;
                shared &= links;
                witnesses |= state.witnesses(links, width);
            }
        }
        if (!carries) {
            return -4;
        }
        return what == 1 ? Long.bitCount(witnesses) : shared;
    }

    // ---- all laid anew in thought ----

    public int plan(int rule) {
        if (!isRule(rule)) {
            return NONE;
        }
        if (!repacking.lay(state, rule)) {
            return -2;
        }
        repacking.carryOut();
        state.copy(thought);
        return repacking.done;
    }

    public int repack(int rule, int what) {
        if (!isRule(rule) || what < 0 || what > 5) {
            return NONE;
        }
        if (!repacking.lay(state, rule)) {
            return -2;
        }
        switch (what) {
            case 0:
                return repacking.targets.top();
            case 1:
                return Long.bitCount(repacking.left);
            case 5:
                return repacking.goingRound();
            default:
                break;
        }
        repacking.carryOut();
        if (what == 2) {
            return repacking.done;
        }
        return what == 3 ? Long.bitCount(repacking.left) : thought.top();
    }

    public int planned(int rule, int i, int what) {
        if (!isRule(rule) || i < 0 || what < 0 || what > 2) {
            return NONE;
        }
        if (!repacking.lay(state, rule)) {
            return -2;
        }
        repacking.carryOut();
        if (i >= repacking.done) {
            return -4;
        }
        int demand = repacking.order[i];
        if (what == 0) {
            return demand;
        }
        return what == 1 ? repacking.targets.first[demand] : repacking.targets.links[demand];
    }

    public int waits(int rule, int demand) {
        if (!isRule(rule) || !state.has(demand)) {
            return NONE;
        }
        if (!repacking.lay(state, rule)) {
            return -2;
        }
        if ((repacking.left >>> demand & 1L) == 0) {
            return -4;
        }
        return Long.bitCount(repacking.waiting[demand]);
    }

    public int unravel(int rule, int what) {
        if (!isRule(rule) || what < 0 || what > 3) {
            return NONE;
        }
        if (!repacking.lay(state, rule)) {
            return -2;
        }
        repacking.carryOutParking();
        switch (what) {
            case 0:
                return Long.bitCount(repacking.parked);
            case 1:
                return repacking.done;
            case 2:
                return Long.bitCount(repacking.left);
            default:
                return thought.top();
        }
    }

    // ---- trials, parts, and how many more ----

    public int trial(int n, int load, int rule, int what) {
        if (!isTrial(n, load) || !isRule(rule) || what < 0 || what > 3) {
            return -2;
        }
        trying.run(state, n, load, rule);
        switch (what) {
            case 0:
                return trying.blocked;
            case 1:
                return trying.blockedRates;
            case 2:
                return trying.highestTop;
            default:
                return trying.lit;
        }
    }

    public int bestRule(int n, int load) {
        if (!isTrial(n, load)) {
            return -2;
        }
        int best = FIRST_WAY_LOW;
        int fewest = n + 1;
        for (int rule = FIRST_WAY_LOW; rule <= FIRST_WAY_HIGH; rule++) {
            trying.run(state, n, load, rule);
            if (trying.blocked < fewest) {
                fewest = trying.blocked;
                best = rule;
            }
        }
        return best;
    }

    private static boolean isTrial(int n, int load) {
        return n >= 1 && n <= MOST_TRIAL_TIMES && load >= 1 && load <= MOST_RATE;
    }

    public int parts(int from, int to, int rate, int rule) {
        if (!isWish(from, to, rate) || !isRule(rule)) {
            return NONE;
        }
        thought.copy(state);
        int left = rate;
        // What found no window once finds none later, since the slots only get fewer: no way up again.
        int most = rate;
        int laid = 0;
        while (left > 0 && laid < MOST_PARTS) {
            most = greatestFitting(from, to, Math.min(most, left), rule);
            if (most == 0) {
                return -2;
            }
            thought.fill(finder.links, span(finder.first, finder.first + finder.width));
            left -= most;
            laid++;
        }
        return left > 0 ? -2 : laid;
    }

    /** The greatest RATE up to most that finds a WINDOW in thought (the finder holds it then), or 0. */
    private int greatestFitting(int from, int to, int most, int rule) {
        for (int rate = most; rate > 0; rate--) {
            if (finder.find(thought, from, to, rate, rule)) {
                return rate;
            }
        }
        return 0;
    }

    public int more(int from, int to, int rate, int rule) {
        if (!isWish(from, to, rate) || !isRule(rule)) {
            return NONE;
        }
        thought.copy(state);
        int most = MOST_LINKS * MOST_SLOTS;
        int laid = 0;
        while (laid < most && finder.find(thought, from, to, rate, rule)) {
            thought.fill(finder.links, span(finder.first, finder.first + finder.width));
            laid++;
        }
        return laid;
    }

    // ---- kept, undone, looked over ----

    public int keep() {
        kept.copy(state);
        isKept = true;
        return kept.demands;
    }

    public boolean undo() {
        if (!isKept) {
            return false;
        }
        state.copy(kept);
        finder.forgetWays();
        return true;
    }

    public int check(int n) {
        if (n < 0 || n > MOST_DEMANDS || n > tape.size) {
            return -2;
        }
        tape.size = 0;
        for (int i = 0; i < n; i++) {
            if (i >= state.demands || tape.bytes[i] != firstByte(i)) {
                return i;
            }
        }
        return NONE;
    }

    private int firstByte(int demand) {
        return state.isLit(demand) ? state.first[demand] : NOT_LIT_BYTE;
    }

    public int count(int what) {
        switch (what) {
            case 0:
                return state.demands;
            case 1:
                return tape.size;
            case 2:
                return state.net.clauses;
            default:
                return NONE;
        }
    }

    // ---- what may be asked for ----

    private boolean arePlaces(int from, int to) {
        int nodes = state.net.nodes;
        return from >= 0 && from < nodes && to >= 0 && to < nodes && from != to;
    }

    private boolean isWish(int from, int to, int rate) {
        return arePlaces(from, to) && rate >= 1 && rate <= MOST_RATE;
    }

    private static boolean isRule(int rule) {
        return rule >= FIRST_WAY_LOW && rule <= FIRST_WAY_HIGH;
    }

    // ---- slots as bits ----

    private static int lowest(long bits) {
        return Long.bitCount((bits & -bits) - 1L);
    }

    private static int highest(long bits) {
        long filled = bits;
        for (int by = 1; by < 64; by *= 2) {
            filled |= filled >>> by;
        }
        return Long.bitCount(filled) - 1;
    }

    /** The slots at which a row of so many free ones begins. */
    private static long rowStarts(long free, int width) {
        long starts = free;
        for (int i = 1; i < width; i++) {
            starts &= free >>> i;
        }
        return starts;
    }

    /** Bits from (with it) to (without it), 0 to 63. */
    private static long span(int from, int to) {
        return (1L << to) - (1L << from);
    }

    // ---- the tape ----

    private static final class Tape {
        final int[] bytes = new int[MOST_TAPE];
        int size = 0;

        void append(int four) {
            for (int shift = 24; shift >= 0 && size < MOST_TAPE; shift -= 8) {
                bytes[size] = four >>> shift & 255;
                size++;
            }
        }
    }

    // ---- nodes and links as they were told ----

    private static final class Net {
        int nodes;
        int slots;
        int between;
        int links;
        int clauses;
        final int[] reach = new int[FORMATS];
        final int[] oneEnd = new int[MOST_LINKS];
        final int[] otherEnd = new int[MOST_LINKS];
        final int[] length = new int[MOST_LINKS];
        final int[] linkAt = new int[MOST_NODES * MOST_NODES];

        Net() {
            begin();
        }

        void begin() {
            nodes = 2;
            slots = 40;
            between = 1;
            links = 0;
            clauses = 0;
            reach[0] = 200;
            reach[1] = 120;
            reach[2] = 80;
            reach[3] = 40;
            for (int i = 0; i < linkAt.length; i++) {
                linkAt[i] = NONE;
            }
        }

        void copy(Net other) {
            nodes = other.nodes;
            slots = other.slots;
            between = other.between;
            links = other.links;
            clauses = other.clauses;
            System.arraycopy(other.reach, 0, reach, 0, FORMATS);
            System.arraycopy(other.oneEnd, 0, oneEnd, 0, MOST_LINKS);
            System.arraycopy(other.otherEnd, 0, otherEnd, 0, MOST_LINKS);
            System.arraycopy(other.length, 0, length, 0, MOST_LINKS);
            System.arraycopy(other.linkAt, 0, linkAt, 0, MOST_NODES * MOST_NODES);
        }

        void join(int one, int other, int far) {
            if (links >= MOST_LINKS) {
                return;
            }
            oneEnd[links] = one;
            otherEnd[links] = other;
            length[links] = far;
            linkAt[one * MOST_NODES + other] = links;
            linkAt[other * MOST_NODES + one] = links;
            links++;
        }

        boolean areJoined(int one, int other) {
            return linkAt[one * MOST_NODES + other] >= 0;
        }

        int lengthOf(int linkBits) {
            int sum = 0;
            for (int link = 0; link < links; link++) {
                if ((linkBits >>> link & 1) != 0) {
                    sum += length[link];
                }
            }
            return sum;
        }

        int formatOf(int far) {
            for (int format = FORMATS - 1; format >= 0; format--) {
                if (reach[format] >= far) {
                    return format;
                }
            }
            return NONE;
        }

        /** The WIDTH of a RATE over a LENGTH; 0 where no FORMAT carries it so far. */
        int widthOf(int rate, int far) {
            int carried = formatOf(far) + 1;
            return carried <= 0 ? 0 : (rate + carried - 1) / carried;
        }

        long allSlots() {
            return (1L << slots) - 1L;
        }
    }

    // ---- all that is kept: the net, its demands, the clock ----

    private static final class State {
        final Net net = new Net();
        int up = 0;
        int clock = 0;
        int x = 1;
        int demands = 0;
        final int[] from = new int[MOST_DEMANDS];
        final int[] to = new int[MOST_DEMANDS];
        final int[] rate = new int[MOST_DEMANDS];
        final int[] status = new int[MOST_DEMANDS];
        final int[] end = new int[MOST_DEMANDS];
        final int[] links = new int[MOST_DEMANDS];
        final int[] first = new int[MOST_DEMANDS];
        final int[] width = new int[MOST_DEMANDS];
        /** A demand's slots, as bits. */
        final long[] own = new long[MOST_DEMANDS];
        /** A link's slots that are used, as bits. */
        final long[] used = new long[MOST_LINKS];
        final int[] order = new int[MOST_DEMANDS];

        void beginWith(Net told) {
            net.copy(told);
            up = (1 << net.links) - 1;
            clock = 0;
            clearDemands();
        }

        void clearDemands() {
            demands = 0;
            for (int i = 0; i < MOST_DEMANDS; i++) {
                status[i] = GONE;
            }
            clearSlots();
        }

        void clearSlots() {
            for (int link = 0; link < MOST_LINKS; link++) {
                used[link] = 0;
            }
        }

        void copy(State other) {
            net.copy(other.net);
            up = other.up;
            clock = other.clock;
            x = other.x;
            demands = other.demands;
            System.arraycopy(other.from, 0, from, 0, MOST_DEMANDS);
            System.arraycopy(other.to, 0, to, 0, MOST_DEMANDS);
            System.arraycopy(other.rate, 0, rate, 0, MOST_DEMANDS);
            System.arraycopy(other.status, 0, status, 0, MOST_DEMANDS);
            System.arraycopy(other.end, 0, end, 0, MOST_DEMANDS);
            System.arraycopy(other.links, 0, links, 0, MOST_DEMANDS);
            System.arraycopy(other.first, 0, first, 0, MOST_DEMANDS);
            System.arraycopy(other.width, 0, width, 0, MOST_DEMANDS);
            System.arraycopy(other.own, 0, own, 0, MOST_DEMANDS);
            System.arraycopy(other.used, 0, used, 0, MOST_LINKS);
        }

        boolean has(int demand) {
            return demand >= 0 && demand < demands;
        }

        boolean isLit(int demand) {
            return has(demand) && status[demand] == LIT;
        }

        boolean isLitOrDark(int demand) {
            return has(demand) && (status[demand] == LIT || status[demand] == DARK);
        }

        boolean hasLink(int link) {
            return link >= 0 && link < net.links;
        }

        boolean isUp(int link) {
            return (up >>> link & 1) != 0;
        }

        /** A DEMAND comes behind all, BLOCKED till it is put somewhere; the caller sees that there is room. */
        int add(int one, int other, int howMuch) {
            int number = demands;
            from[number] = one;
            to[number] = other;
            rate[number] = howMuch;
            status[number] = BLOCKED;
            end[number] = NONE;
            demands++;
            return number;
        }

        void put(int demand, int linkBits, int slot, int wide) {
            status[demand] = LIT;
            links[demand] = linkBits;
            first[demand] = slot;
            width[demand] = wide;
            own[demand] = span(slot, slot + wide);
            fill(linkBits, own[demand]);
        }

        void fill(int linkBits, long slots) {
            for (int link = 0; link < net.links; link++) {
                if ((linkBits >>> link & 1) != 0) {
                    used[link] |= slots;
                }
            }
        }

        void takeOff(int demand, int becomes) {
            if (status[demand] == LIT) {
                for (int link = 0; link < net.links; link++) {
                    if ((links[demand] >>> link & 1) != 0) {
                        used[link] &= ~own[demand];
                    }
                }
            }
            status[demand] = becomes;
        }

        void move(int demand, int linkBits, int slot, int wide) {
            takeOff(demand, GONE);
            put(demand, linkBits, slot, wide);
        }

        /** Slots used on some of the LINKS, but for those of one LIT DEMAND (NONE: of all). */
        long busy(int linkBits, int but) {
            boolean less = but >= 0 && but < MOST_DEMANDS && status[but] == LIT;
            long slots = 0;
            for (int link = 0; link < net.links; link++) {
                if ((linkBits >>> link & 1) != 0) {
                    boolean itsOwn = less && (links[but] >>> link & 1) != 0;
                    slots |= itsOwn ? used[link] & ~own[but] : used[link];
                }
            }
            return slots;
        }

        /** The slots at which a WINDOW on the LINKS FITS for a DEMAND (NONE: a new one). */
        long fitting(int linkBits, int wide, int forWhom) {
            long busy = busy(linkBits, forWhom);
            long near = busy;
            for (int i = 1; i <= net.between; i++) {
                near |= busy << i | busy >>> i;
            }
            return rowStarts(net.allSlots() & ~near, wide);
        }

        int slideRoom(int demand) {
            long fitting = fitting(links[demand], width[demand], demand);
            int slot = first[demand];
            while (slot > 0 && (fitting >>> (slot - 1) & 1L) != 0) {
                slot--;
            }
            return first[demand] - slot;
        }

        /** The slots to which a LIT DEMAND can JUMP. */
        long landings(int demand) {
            int wide = width[demand];
            long sharing = span(Math.max(0, first[demand] - wide + 1), first[demand] + wide);
            return fitting(links[demand], wide, demand) & ~sharing;
        }

        boolean clashes(int demand, int linkBits, int slot, int wide) {
            return status[demand] == LIT && (links[demand] & linkBits) != 0
                && slot < first[demand] + width[demand] + net.between
                && first[demand] < slot + wide + net.between;
        }

        /** The lowest LIT DEMAND on whose account a new one's WINDOW does not FIT. */
        int inTheWay(int linkBits, int slot, int wide) {
            for (int i = 0; i < demands; i++) {
                if (clashes(i, linkBits, slot, wide)) {
                    return i;
                }
            }
            return NONE;
        }

        /** The WITNESSES at all slots of one WAY, as bits. */
        long witnesses(int linkBits, int wide) {
            long who = 0;
            for (int slot = 0; slot + wide <= net.slots; slot++) {
                int lowestOne = inTheWay(linkBits, slot, wide);
                if (lowestOne >= 0) {
                    who |= 1L << lowestOne;
                }
            }
            return who;
        }

        int top() {
            long all = 0;
            for (int link = 0; link < net.links; link++) {
                all |= used[link];
            }
            return highest(all);
        }

        int slotsUsed() {
            int sum = 0;
            for (int link = 0; link < net.links; link++) {
                sum += Long.bitCount(used[link]);
            }
            return sum;
        }

        int howMany(int inStatus) {
            int sum = 0;
            for (int i = 0; i < demands; i++) {
                if (status[i] == inStatus) {
                    sum++;
                }
            }
            return sum;
        }

        int litOn(int link) {
            int sum = 0;
            for (int i = 0; i < demands; i++) {
                if (status[i] == LIT && (links[i] >>> link & 1) != 0) {
                    sum++;
                }
            }
            return sum;
        }

        /** The LIT DEMANDS come into the order row by FIRST, of like ones by number: how many. */
        int orderByFirst() {
            int lit = 0;
            for (int i = 0; i < demands; i++) {
                if (status[i] == LIT) {
                    int place = lit;
                    while (place > 0 && first[order[place - 1]] > first[i]) {
                        order[place] = order[place - 1];
                        place--;
                    }
                    order[place] = i;
                    lit++;
                }
            }
            return lit;
        }

        int sever(int link) {
            up &= ~(1 << link);
            int dark = 0;
            for (int i = 0; i < demands; i++) {
                if (status[i] == LIT && (links[i] >>> link & 1) != 0) {
                    takeOff(i, DARK);
                    dark++;
                }
            }
            return dark;
        }

        int endThoseDue() {
            int gone = 0;
            for (int i = 0; i < demands; i++) {
                if (isLitOrDark(i) && end[i] >= 0 && end[i] <= clock) {
                    takeOff(i, GONE);
                    gone++;
                }
            }
            return gone;
        }
    }

    // ---- ways ----

    private static final class Ways {
        /** By pair (first node times 8 and the other): how many WAYS, and which links were up by then. */
        final int[] known = new int[MOST_NODES * MOST_NODES];
        private final int[] knownFor = new int[MOST_NODES * MOST_NODES];
        final int[] links = new int[MOST_NODES * MOST_NODES * MOST_WAYS];
        final int[] length = new int[MOST_NODES * MOST_NODES * MOST_WAYS];
        /** How many LINKS a way has. */
        final int[] many = new int[MOST_NODES * MOST_NODES * MOST_WAYS];
        private int pair = 0;
        private int goal = 0;
        private int up = 0;

        Ways() {
            forget();
        }

        void forget() {
            for (int i = 0; i < knownFor.length; i++) {
                knownFor[i] = NONE;
            }
        }

        /** Sees that the WAYS of a pair are known, and answers where they stand. */
        int pairOf(State s, int from, int to) {
            pair = from * MOST_NODES + to;
            if (knownFor[pair] != s.up) {
                known[pair] = 0;
                knownFor[pair] = s.up;
                up = s.up;
                goal = to;
                walk(this, s.net, from, 1 << from, 0, 0, 0);
            }
            return pair;
        }

        /**
         * Goes on from a node to all that were not seen yet, the lower number first: so of like ways the one
         * that comes first by its nodes is met first, and a later one stands behind it.
         */
        private static void walk(Ways ways, Net net, int node, int seen, int bits, int far, int steps) {
            if (node == ways.goal) {
                ways.offer(bits, far, steps);
                return;
            }
            if (steps >= MOST_NODES - 1) {
                return;
            }
            for (int next = 0; next < net.nodes; next++) {
                int link = net.linkAt[node * MOST_NODES + next];
                if (link >= 0 && (ways.up >>> link & 1) != 0 && (seen >>> next & 1) == 0) {
                    walk(ways, net, next, seen | 1 << next, bits | 1 << link, far + net.length[link], steps + 1);
                }
            }
        }

        /** A way comes to its place among those so far, behind like ones; what is fifth falls off. */
        private void offer(int bits, int far, int steps) {
            int base = pair * MOST_WAYS;
            int at = known[pair];
            while (at > 0 && (far < length[base + at - 1]
                || far == length[base + at - 1] && steps < many[base + at - 1])) {
                if (at < MOST_WAYS) {
                    links[base + at] = links[base + at - 1];
                    length[base + at] = length[base + at - 1];
                    many[base + at] = many[base + at - 1];
                }
                at--;
            }
            if (at < MOST_WAYS) {
                links[base + at] = bits;
                length[base + at] = far;
                many[base + at] = steps;
                if (known[pair] < MOST_WAYS) {
                    known[pair]++;
                }
            }
        }
    }

    // ---- windows by the rules ----

    private static final class Finder {
        final Ways ways = new Ways();
        int way = NONE;
        int links = 0;
        int first = 0;
        int width = 0;
        private int about = 0;

        void forgetWays() {
            ways.forget();
        }

        /** Whether there is a WINDOW for a new DEMAND; if so, the fields tell where. */
        boolean find(State s, int from, int to, int rate, int rule) {
            int pair = ways.pairOf(s, from, to);
            boolean firstWayWins = rule == FIRST_WAY_LOW || rule == FIRST_WAY_HIGH;
            way = NONE;
            for (int k = 0; k < ways.known[pair] && !(firstWayWins && way >= 0); k++) {
                int bits = ways.links[pair * MOST_WAYS + k];
                int wide = s.net.widthOf(rate, ways.length[pair * MOST_WAYS + k]);
                long fitting = wide > 0 ? s.fitting(bits, wide, NONE) : 0;
                if (fitting != 0 && rule == TIGHTEST) {
                    weighRows(s, k, bits, wide, fitting);
                } else if (fitting != 0) {
                    int slot = rule == FIRST_WAY_HIGH ? highest(fitting) : lowest(fitting);
                    if (way < 0 || slot < first) {
                        choose(k, bits, slot, wide);
                    }
                }
            }
            return way >= 0;
        }

        /** All windows in one row of free slots are as tight, so the lowest of each row is enough. */
        private void weighRows(State s, int k, int bits, int wide, long fitting) {
            long busy = s.busy(bits, NONE);
            int begin = 0;
            for (int slot = 0; slot <= s.net.slots; slot++) {
                if (slot == s.net.slots || (busy >>> slot & 1L) != 0) {
                    long inRow = fitting & span(begin, slot);
                    if (inRow != 0 && (way < 0 || slot - begin < about)) {
                        choose(k, bits, lowest(inRow), wide);
                        about = slot - begin;
                    }
                    begin = slot + 1;
                }
            }
        }

        private void choose(int k, int bits, int slot, int wide) {
            way = k;
            links = bits;
            first = slot;
            width = wide;
        }
    }

    // ---- repacking in thought ----

    private static final class Repacking {
        /** As all is while the moves are done. */
        private final State now;
        /** All at their TARGETS, or where they stay. */
        final State targets = new State();
        private final Finder finder;
        /** The MOVES that are not done yet, as bits. */
        long left = 0;
        long parked = 0;
        /** By move, the DEMANDS for which it WAITS, as bits. */
        final long[] waiting = new long[MOST_DEMANDS];
        final int[] order = new int[MOST_DEMANDS];
        int done = 0;

        Repacking(State thought, Finder finder) {
            now = thought;
            this.finder = finder;
        }

        /** Finds all TARGETS, and which moves wait for which; false if the REPACK is spoiled. */
        boolean lay(State as, int rule) {
            now.copy(as);
            targets.copy(as);
            targets.clearSlots();
            for (int i = 0; i < now.demands; i++) {
                targets.status[i] = GONE;
            }
            left = 0;
            for (int i = 0; i < now.demands; i++) {
                if (now.status[i] == LIT) {
                    if (finder.find(targets, now.from[i], now.to[i], now.rate[i], rule)) {
                        aim(i);
                    } else if (!canStay(i)) {
                        return false;
                    }
                }
            }
            done = 0;
            parked = 0;
            for (int i = 0; i < now.demands; i++) {
                waiting[i] = (left >>> i & 1L) != 0 ? waitingFor(i) : 0;
            }
            return true;
        }

        private void aim(int demand) {
            targets.put(demand, finder.links, finder.first, finder.width);
            if (finder.links != now.links[demand] || finder.first != now.first[demand]
                || finder.width != now.width[demand]) {
                left |= 1L << demand;
            }
        }

        private boolean canStay(int demand) {
            if (targets.inTheWay(now.links[demand], now.first[demand], now.width[demand]) >= 0) {
                return false;
            }
            targets.put(demand, now.links[demand], now.first[demand], now.width[demand]);
            return true;
        }

        private long waitingFor(int move) {
            long others = 0;
            for (int i = 0; i < now.demands; i++) {
                if (i != move && now.clashes(i, targets.links[move], targets.first[move], targets.width[move])) {
                    others |= 1L << i;
                }
            }
            return others;
        }

        /** The PLAN: as long as there is one, the lowest move that waits for none is done. */
        void carryOut() {
            int move = nextFree();
            while (move >= 0 && done < MOST_DEMANDS) {
                left &= ~(1L << move);
                order[done] = move;
                done++;
                now.move(move, targets.links[move], targets.first[move], targets.width[move]);
                waitAnewFor(move);
                move = nextFree();
            }
        }

        private int nextFree() {
            for (int i = 0; i < now.demands; i++) {
                if ((left >>> i & 1L) != 0 && waiting[i] == 0) {
                    return i;
                }
            }
            return NONE;
        }

        /** One DEMAND stands elsewhere: only who waits for that one can have changed. */
        private void waitAnewFor(int moved) {
            for (int i = 0; i < now.demands; i++) {
                if (i != moved && (left >>> i & 1L) != 0) {
                    boolean waits = now.clashes(moved, targets.links[i], targets.first[i], targets.width[i]);
                    waiting[i] = waits ? waiting[i] | 1L << moved : waiting[i] & ~(1L << moved);
                }
            }
        }

        /** UNRAVELLED: the PLAN, and a DEMAND parked wherever it can't go on. */
        void carryOutParking() {
            carryOut();
            for (int i = 0; i < MOST_DEMANDS && left != 0 && parkOne(); i++) {
                carryOut();
            }
        }

        private boolean parkOne() {
            for (int i = 0; i < now.demands; i++) {
                boolean mayPark = ((left & ~parked) >>> i & 1L) != 0;
                long landings = mayPark ? now.landings(i) : 0;
                if (landings != 0) {
                    now.move(i, now.links[i], lowest(landings), now.width[i]);
                    parked |= 1L << i;
                    waitAnewFor(i);
                    return true;
                }
            }
            return false;
        }

        /** How many MOVES come back to themselves by WAITS; ahead of all moves only, the rows are used up. */
        int goingRound() {
            for (int by = 0; by < now.demands; by++) {
                for (int i = 0; i < now.demands; i++) {
                    if ((waiting[i] >>> by & 1L) != 0) {
                        waiting[i] |= waiting[by];
                    }
                }
            }
            int round = 0;
            for (int i = 0; i < now.demands; i++) {
                if ((waiting[i] >>> i & 1L) != 0) {
                    round++;
                }
            }
            return round;
        }
    }

    // ---- trials by draws ----

    private static final class Trial {
        private final State room;
        private final Finder finder;
        private int x = 0;
        int blocked = 0;
        int blockedRates = 0;
        int highestTop = NONE;
        int lit = 0;

        Trial(State thought, Finder finder) {
            room = thought;
            this.finder = finder;
        }

        void run(State as, int n, int load, int rule) {
            room.copy(as);
            room.clearDemands();
            x = as.x;
            blocked = 0;
            blockedRates = 0;
            highestTop = NONE;
            lit = 0;
            for (int time = 0; time < n; time++) {
                endThoseOf(time);
                askAt(time, load, rule);
            }
        }

        private void endThoseOf(int time) {
            for (int i = 0; i < MOST_DEMANDS; i++) {
                if (room.status[i] == LIT && room.end[i] == time) {
                    room.takeOff(i, GONE);
                    lit--;
                }
            }
        }

        private void askAt(int time, int load, int rule) {
            int nodes = Math.max(2, room.net.nodes);
            int from = draw(nodes);
            int to = (from + 1 + draw(nodes - 1)) % nodes;
            int rate = 1 + draw(load);
            int end = time + 1 + draw(20);
            if (!finder.find(room, from, to, rate, rule)) {
                blocked++;
                blockedRates += rate;
                return;
            }
            // None lasts longer than 20 TIMES, so this place is free again by then.
            int place = time % MOST_DEMANDS;
            room.put(place, finder.links, finder.first, finder.width);
            room.end[place] = end;
            lit++;
            highestTop = Math.max(highestTop, room.top());
        }

        private int draw(int modulo) {
            x = (25173 * x + 13849) % 65536;
            return modulo > 0 ? x % modulo : 0;
        }
    }

    // ---- texts read ----

    private static final class Reader {
        static final int ASK = 0;
        static final int DROP = 1;
        static final int SLIDE = 2;
        static final int SWEEP = 3;
        static final int JUMP = 4;
        static final int CUT = 5;
        static final int MEND = 6;
        static final int RELIGHT = 7;
        static final int PLAN = 8;
        static final int LASTS = 9;
        static final int TICKS = 10;

        private static final int NODES = 0;
        private static final int SLOTS = 1;
        private static final int BETWEEN = 2;
        private static final int REACH = 3;
        private static final int LINK = 4;

        private static final int MOST_CLAUSES = 24;
        private static final int MOST_NUMBERS = 4;
        private static final int MOST_DIGITS = 5;
        private static final int BLANK = 32;
        private static final int SEMICOLON = 59;

        private static final int[] GRID_NUMBERS = {1, 1, 1, 4, 3};
        private static final int[] STEP_NUMBERS = {4, 1, 1, 0, 2, 1, 1, 1, 1, 2, 1};
        /** Which of a step's numbers is a RULE. */
        private static final int[] STEP_RULE = {3, -1, -1, -1, -1, -1, -1, 0, 0, -1, -1};

        private final Tape tape;
        final Net draft = new Net();
        private final int[] words = new int[MOST_CLAUSES];
        private final int[] numbers = new int[MOST_CLAUSES * MOST_NUMBERS];
        private boolean isGrid = false;
        private int clauses = 0;
        private int end = 0;
        private int at = 0;
        private int fault = 0;

        Reader(Tape tape) {
            this.tape = tape;
        }

        int wordOf(int clause) {
            return clause >= 0 && clause < MOST_CLAUSES ? words[clause] : NONE;
        }

        int numberOf(int clause, int i) {
            int place = clause * MOST_NUMBERS + i;
            return place >= 0 && place < numbers.length ? numbers[place] : NONE;
        }

        /** How many CLAUSES or STEPS (of a GRID the draft is as they tell then), or the FAULT. */
        int readText(int n, boolean ofGrid) {
            isGrid = ofGrid;
            draft.begin();
            end = n;
            at = 0;
            fault = 0;
            clauses = 0;
            boolean goesOn = true;
            while (goesOn && clauses < MOST_CLAUSES) {
                readClause();
                if (fault != 0) {
                    return fault;
                }
                clauses++;
                goesOn = at < end;
                if (goesOn) {
                    at++;
                }
            }
            if (goesOn) {
                blame(4, at);
                return fault;
            }
            draft.clauses = clauses;
            return clauses;
        }

        private void readClause() {
            int begin = at;
            while (at < end && tape.bytes[at] >= 'a' && tape.bytes[at] <= 'z') {
                at++;
            }
            int word = wordFrom(begin);
            if (word < 0) {
                blame(1, begin);
                return;
            }
            if (isGrid && word == LINK && draft.links >= MOST_LINKS) {
                blame(6, begin);
                return;
            }
            words[clauses] = word;
            int due = isGrid ? GRID_NUMBERS[word] : STEP_NUMBERS[word];
            for (int i = 0; i < due && fault == 0; i++) {
                readNumber(word, i);
            }
            if (fault == 0 && at < end && tape.bytes[at] != SEMICOLON) {
                blame(1, at);
            }
        }

        private void readNumber(int word, int i) {
            if (at >= end || tape.bytes[at] != BLANK) {
                blame(1, at);
                return;
            }
            at++;
            int begin = at;
            int value = 0;
            while (at < end && tape.bytes[at] >= '0' && tape.bytes[at] <= '9') {
                if (at - begin == MOST_DIGITS) {
                    blame(2, at);
                    return;
                }
                value = value * 10 + tape.bytes[at] - '0';
                at++;
            }
            if (at == begin) {
                blame(1, at);
                return;
            }
            numbers[clauses * MOST_NUMBERS + i] = value;
            int wrong = isGrid ? gridFault(word, i, value) : stepFault(word, i, value);
            if (wrong != 0) {
                blame(wrong, begin);
            }
        }

        private void blame(int number, int place) {
            fault = -1000 * number - place;
        }

        private int stepFault(int word, int i, int value) {
            int most = i == STEP_RULE[word] ? FIRST_WAY_HIGH : 99;
            return value > most ? 3 : 0;
        }

        /** The FAULT of a number, or 0: then the draft has it. */
        private int gridFault(int word, int i, int value) {
            switch (word) {
                case NODES:
                    if (value < 2 || value > MOST_NODES || draft.links > 0) {
                        return 3;
                    }
                    draft.nodes = value;
                    return 0;
                case SLOTS:
                    if (value < 8 || value > MOST_SLOTS) {
                        return 3;
                    }
                    draft.slots = value;
                    return 0;
                case BETWEEN:
                    if (value > 4) {
                        return 3;
                    }
                    draft.between = value;
                    return 0;
                case REACH:
                    if (value > 999 || i > 0 && value > draft.reach[i - 1]) {
                        return 3;
                    }
                    draft.reach[i] = value;
                    return 0;
                default:
                    return linkFault(i, value);
            }
        }

        private int linkFault(int i, int value) {
            int one = numbers[clauses * MOST_NUMBERS];
            if (i == 2) {
                if (value < 1 || value > 99) {
                    return 3;
                }
                draft.join(one, numbers[clauses * MOST_NUMBERS + 1], value);
                return 0;
            }
            if (value >= draft.nodes) {
                return 3;
            }
            return i == 1 && (value == one || draft.areJoined(one, value)) ? 6 : 0;
        }

        /** Which word stands from there up to where the reader is; NONE if there is no such one. */
        private int wordFrom(int begin) {
            int most = isGrid ? GRID_NUMBERS.length : STEP_NUMBERS.length;
            for (int word = 0; word < most; word++) {
                if (isWord(begin, isGrid ? gridWord(word) : stepWord(word))) {
                    return word;
                }
            }
            return NONE;
        }

        private boolean isWord(int begin, String word) {
            if (at - begin != word.length()) {
                return false;
            }
            for (int i = 0; i < word.length(); i++) {
                if (tape.bytes[begin + i] != word.charAt(i)) {
                    return false;
                }
            }
            return true;
        }

        private static String gridWord(int word) {
            switch (word) {
                case NODES:
                    return "nodes";
                case SLOTS:
                    return "slots";
                case BETWEEN:
                    return "between";
                case REACH:
                    return "reach";
                default:
                    return "link";
            }
        }

        private static String stepWord(int word) {
            switch (word) {
                case ASK:
                    return "ask";
                case DROP:
                    return "drop";
                case SLIDE:
                    return "slide";
                case SWEEP:
                    return "sweep";
                case JUMP:
                    return "jump";
                case CUT:
                    return "cut";
                case MEND:
                    return "mend";
                case RELIGHT:
                    return "relight";
                case PLAN:
                    return "plan";
                case LASTS:
                    return "lasts";
                default:
                    return "ticks";
            }
        }
    }
}
