import java.lang.management.ManagementFactory;

/** No call makes an object: a run's room is what its constructors made. */
public final class RoomTest {
    private static final Tell T = new Tell("RoomTest");
    private static final com.sun.management.ThreadMXBean ROOM =
        (com.sun.management.ThreadMXBean) ManagementFactory.getThreadMXBean();

    private RoomTest() { }

    public static void main(String[] args) {
        FlexGrid g = Tell.gridOf("nodes 8;slots 60;between 0;link 0 1 9;link 1 2 8;link 2 3 7;link 3 4 6;link 4 5 5;"
            + "link 5 6 4;link 6 7 3;link 7 0 2;link 0 4 9;link 1 5 9;link 2 6 9;link 3 7 9");
        calls(g);
        long made = ROOM.getCurrentThreadAllocatedBytes();
        for (int i = 0; i < 20; i++) {
            calls(g);
        }
        made = ROOM.getCurrentThreadAllocatedBytes() - made;
        T.due("bytes made by calls", (int) made, 0);
        long begin = ROOM.getCurrentThreadAllocatedBytes();
        FlexGrid fresh = new FlexGrid();
        long whole = ROOM.getCurrentThreadAllocatedBytes() - begin;
        T.due("a new object is small", whole > 0 && whole < 30000 && fresh.count(0) == 0, true);
        T.end();
    }

    private static void calls(FlexGrid g) {
        g.keep();
        g.feed(0x61736B20, 0x30203120, 0x31302030, 0x3B737765, 0x65700000);
        g.works(18);
        for (int i = 0; i < 40; i++) {
            g.ask(i % 8, (i + 1 + i % 5) % 8, 1 + i % 30, i % 4);
            g.demandIs(i, 10);
        }
        for (int i = 0; i < 12; i++) {
            g.ifCut(i, i % 4, 2);
            g.linkIs(i, 8);
            g.linkIs(i, 25);
        }
        for (int rule = 0; rule < 4; rule++) {
            g.repack(rule, 5);
            g.planned(rule, 1, 1);
            g.waits(rule, 3);
            g.unravel(rule, 3);
            g.trial(200, 64, rule, 0);
            g.parts(0, 5, 64, rule);
            g.more(0, 5, 1, rule);
            g.found(0, 5, 9, rule, 1);
        }
        g.bestRule(100, 30);
        g.blocked(0, 5, 60, 1);
        g.witness(0, 5, 6, 1, 3);
        g.drop(0);
        g.slide(1);
        g.jump(1, 50);
        g.cut(0);
        g.relight(2);
        g.mend(0);
        g.sweeps();
        g.plan(3);
        g.lasts(2, 5);
        g.ticks(9);
        g.feed(0x736C6F74, 0x7320393B, 0x73000000, 0, 0);
        g.grid(9);
        g.check(0);
        g.undo();
    }
}
