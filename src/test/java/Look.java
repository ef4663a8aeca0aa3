import java.util.ArrayList;
import java.util.List;

/** All that can be seen of a grid by asking, as one row of answers; some four hundred calls. */
final class Look {
    private Look() { }

    static List<Integer> at(FlexGrid g) {
        List<Integer> seen = new ArrayList<>();
        for (int what = 0; what < 14; what++) {
            seen.add(g.gridIs(what));
        }
        for (int format = 0; format < 4; format++) {
            seen.add(g.gridIs(20 + format));
        }
        for (int what = 0; what < 3; what++) {
            seen.add(g.count(what));
        }
        links(g, seen);
        demands(g, seen);
        for (int rule = 0; rule < 4; rule++) {
            thoughts(g, rule, seen);
        }
        return seen;
    }

    private static void links(FlexGrid g, List<Integer> seen) {
        for (int link = 0; link < g.gridIs(3); link++) {
            for (int what = 0; what < 10; what++) {
                seen.add(g.linkIs(link, what));
            }
            seen.add(g.linkIs(link, 22));
            seen.add(g.ifCut(link, 0, 2));
        }
        for (int k = 0; k < 2; k++) {
            for (int what = 0; what < 5; what++) {
                seen.add(g.way(0, 1, k, what));
            }
        }
    }

    /** Of forty demands the last ones alone, so that the calls stay few. */
    private static void demands(FlexGrid g, List<Integer> seen) {
        int all = g.gridIs(5);
        for (int i = Math.max(0, all - 8); i < all; i++) {
            for (int what = 0; what < 12; what++) {
                seen.add(g.demandIs(i, what));
            }
        }
    }

    private static void thoughts(FlexGrid g, int rule, List<Integer> seen) {
        for (int what = 0; what < 6; what++) {
            seen.add(g.repack(rule, what));
        }
        for (int what = 0; what < 3; what++) {
            seen.add(g.found(0, 1, 7, rule, what));
            seen.add(g.planned(rule, 0, what));
        }
        seen.add(g.unravel(rule, 3));
        seen.add(g.trial(30, 20, rule, 1));
        seen.add(g.parts(0, 1, 30, rule));
        seen.add(g.more(0, 1, 3, rule));
    }
}
