/** Promises 1 to 4, 36 and 37: a new object, the tape, and what is told by it. */
public final class TextsTest {
    private static final Tell T = new Tell("TextsTest");

    private TextsTest() { }

    public static void main(String[] args) {
        aNewObject();
        theTape();
        gridsThatStand();
        gridsBegunAnew();
        gridFaults();
        gridFaultsOfNumbers();
        gridFaultsOfLinks();
        tooManyClauses();
        textsNotThere();
        worksDone();
        worksRefused();
        worksFaults();
        firstsChecked();
        counts();
        T.end();
    }

    private static void aNewObject() {
        FlexGrid g = new FlexGrid();
        int[] first = {2, 40, 1, 0, 0, 0, 0, 0, 0, 0, -1, 0, 0, 1};
        for (int what = 0; what < first.length; what++) {
            T.due("gridIs " + what, g.gridIs(what), first[what]);
        }
        T.due("reach 0", g.gridIs(20), 200);
        T.due("reach 1", g.gridIs(21), 120);
        T.due("reach 2", g.gridIs(22), 80);
        T.due("reach 3", g.gridIs(23), 40);
        T.due("no way", g.way(0, 1, 0, 4), 0);
        T.due("not kept", g.undo(), false);
        T.due("NONE", FlexGrid.NONE, -1);
    }

    private static void theTape() {
        FlexGrid g = new FlexGrid();
        T.due("highest byte first", g.feed(0x6E6F6465, 0x7320337A, 0, 0, 0), 20);
        T.due("nodes 3", g.grid(7), 1);
        T.due("three", g.gridIs(0), 3);
        for (int i = 1; i <= 12; i++) {
            T.due("feed " + i, g.feed(-1, 0, 0, 0, 0), 20 * i);
        }
        T.due("240 at most", g.feed(0, 0, 0, 0, 0), -1);
        T.due("still 240", g.count(1), 240);
        g.check(0);
        T.due("empty", g.count(1), 0);
        g.feed(0x80FF7F00, 0, 0, 0, 0);
        T.due("bytes above 127", g.grid(1), -1000);
    }

    private static void gridsThatStand() {
        FlexGrid g = new FlexGrid();
        T.due("the greatest", Tell.grid(g, "nodes 8;slots 60;between 4;reach 999 999 0 0;link 7 0 99"), 5);
        T.due("nodes", g.gridIs(0), 8);
        T.due("slots", g.gridIs(1), 60);
        T.due("between", g.gridIs(2), 4);
        T.due("reach 1", g.gridIs(21), 999);
        T.due("reach 2", g.gridIs(22), 0);
        T.due("first node", g.linkIs(0, 0), 7);
        T.due("other node", g.linkIs(0, 1), 0);
        T.due("length", g.linkIs(0, 2), 99);
        T.due("clauses", g.count(2), 5);
        T.due("the least", Tell.grid(g, "nodes 2;slots 8;between 0;reach 0 0 0 0;link 0 1 1"), 5);
        T.due("slots 8", g.gridIs(1), 8);
        T.due("between 0", g.gridIs(2), 0);
        T.due("told twice", Tell.grid(g, "slots 9;slots 10;nodes 4;nodes 3;reach 9 9 9 9;reach 8 7 6 5"), 6);
        T.due("as told last: slots", g.gridIs(1), 10);
        T.due("as told last: nodes", g.gridIs(0), 3);
        T.due("as told last: reach", g.gridIs(23), 5);
        T.due("all else as at first", g.gridIs(2), 1);
        T.due("five digits", Tell.grid(g, "slots 00012"), 1);
        T.due("twelve", g.gridIs(1), 12);
    }

    private static void gridsBegunAnew() {
        FlexGrid g = Tell.gridOf("nodes 3;link 0 1 5;link 1 2 5");
        g.seed(77);
        g.ask(0, 1, 4, 0);
        g.cut(1);
        g.ticks(5);
        T.due("a fault", Tell.grid(g, "slots 7"), -3006);
        T.due("links stay", g.gridIs(3), 2);
        T.due("the cut stays", g.gridIs(4), 1);
        T.due("demands stay", g.gridIs(5), 1);
        T.due("clauses stay", g.count(2), 3);
        T.due("but the tape is empty", g.count(1), 0);
        T.due("anew", Tell.grid(g, "slots 30;link 0 1 5"), 2);
        T.due("nodes as at first", g.gridIs(0), 2);
        T.due("links anew", g.gridIs(3), 1);
        T.due("up", g.gridIs(4), 1);
        T.due("no demands", g.gridIs(5), 0);
        T.due("no slots used", g.gridIs(11), 0);
        T.due("the clock", g.gridIs(12), 0);
        T.due("X stays", g.gridIs(13), 77);
    }

    private static void gridFault(String text, int want) {
        FlexGrid g = new FlexGrid();
        T.due("grid " + text, Tell.grid(g, text), want);
        T.due("as before: " + text, g.count(2), 0);
    }

    private static void gridFaults() {
        gridFault(";", -1000);
        gridFault(" nodes 3", -1000);
        gridFault("Nodes 3", -1000);
        gridFault("node 3", -1000);
        gridFault("nodess 3", -1000);
        gridFault("nodesz 3", -1000);
        gridFault("nodesa 3", -1000);
        gridFault("modes 3", -1000);
        gridFault("nodes{3", -1005);
        gridFault("nodes`3", -1005);
        gridFault("nodes 3/", -1007);
        gridFault("nodes 3:", -1007);
        gridFault("ask 0 1 1 0", -1000);
        gridFault("nodes", -1005);
        gridFault("nodes;", -1005);
        gridFault("nodes3", -1005);
        gridFault("nodes ", -1006);
        gridFault("nodes x", -1006);
        gridFault("nodes  3", -1006);
        gridFault("nodes 3 ", -1007);
        gridFault("nodes 3 4", -1007);
        gridFault("nodes 3,slots 9", -1007);
        gridFault("nodes 3;", -1008);
        gridFault("nodes 3;;slots 9", -1008);
        gridFault("nodes 3; slots 9", -1008);
        gridFault("reach 9 8 7", -1011);
        gridFault("reach 9 8 7;", -1011);
        gridFault("link 0 1", -1008);
        gridFault("nodes 3;slos 9;between 9", -1008);
    }

    private static void gridFaultsOfNumbers() {
        gridFault("nodes 000003", -2011);
        gridFault("nodes 999999", -2011);
        gridFault("nodes 99999", -3006);
        gridFault("nodes 9x", -3006);
        gridFault("nodes 1", -3006);
        gridFault("nodes 9", -3006);
        gridFault("slots 7", -3006);
        gridFault("slots 61", -3006);
        gridFault("between 5", -3008);
        gridFault("reach 1000 0 0 0", -3006);
        gridFault("reach 5 6 0 0", -3008);
        gridFault("reach 5 5 5 6", -3012);
        gridFault("link 0 1 5;nodes 3", -3017);
        gridFault("link 0 1 5;nodes 2", -3017);
        gridFault("link 0 1 5;nodes 222222", -2022);
    }

    private static void gridFaultsOfLinks() {
        gridFault("link 2 0 5", -3005);
        gridFault("link 0 2 5", -3007);
        gridFault("link 0 1 0", -3009);
        gridFault("link 0 1 100", -3009);
        gridFault("link 1 1 5", -6007);
        gridFault("link 2 2 5", -3005);
        gridFault("link 0 1 5;link 0 1 7", -6018);
        gridFault("link 0 1 5;link 1 0 7", -6018);
        gridFault("link 0 1 5;link 1 0x", -6018);
        gridFault("link 0 1 5;link 0 5 7", -3018);
        StringBuilder links = new StringBuilder("nodes 6");
        for (int p = 0; p < 3; p++) {
            for (int q = p + 1; q < 6 && links.length() < 140; q++) {
                links.append(";link ").append(p).append(' ').append(q).append(" 1");
            }
        }
        String twelve = links.toString();
        String fourteen = twelve + ";link 3 4 1;link 3 5 1";
        FlexGrid g = new FlexGrid();
        T.due("fourteen links", Tell.grid(g, fourteen), 15);
        T.due("are there", g.gridIs(3), 14);
        gridFault(fourteen + ";link 4 5 1", -6000 - fourteen.length() - 1);
        gridFault(fourteen + ";link", -6000 - fourteen.length() - 1);
        gridFault(fourteen + ";links", -1000 - fourteen.length() - 1);
    }

    private static void tooManyClauses() {
        String many = "slots 9;".repeat(23) + "slots 9";
        FlexGrid g = new FlexGrid();
        T.due("24 clauses", Tell.grid(g, many), 24);
        gridFault(many + ";slots 9", -4192);
        gridFault(many + ";x", -4192);
        gridFault(many + ";;", -4192);
        gridFault(many + ";", -4192);
        gridFault(many + "x", -1191);
    }

    private static void textsNotThere() {
        FlexGrid g = new FlexGrid();
        Tell.feed(g, "slots 9");
        T.due("n 0", g.grid(0), -1);
        T.due("n below 0", g.grid(-1), -1);
        T.due("n above what is there", g.grid(21), -1);
        T.due("n 201", g.grid(201), -1);
        T.due("works 0", g.works(0), -1);
        T.due("works 21", g.works(21), -1);
        T.due("works 201", g.works(201), -1);
        T.due("the tape stays", g.count(1), 20);
        T.due("and is there", g.grid(7), 1);
        for (int i = 0; i < 11; i++) {
            g.feed(0, 0, 0, 0, 0);
        }
        T.due("201 of 220", g.grid(201), -1);
        T.due("200 of 220", g.grid(200), -1000);
        T.due("empty", g.count(1), 0);
    }

    private static void worksDone() {
        FlexGrid g = Tell.gridOf("slots 20;link 0 1 30");
        T.due("all steps", Tell.works(g, "ask 0 1 8 0;ask 0 1 8 0;slide 1;drop 0;sweep;jump 1 5;cut 0;mend 0;"
            + "relight 0;plan 0;lasts 1 3;ticks 2"), 12);
        T.due("gone", g.demandIs(0, 3), 3);
        T.due("lit again", g.demandIs(1, 4), 0);
        T.due("its end", g.demandIs(1, 11), 3);
        T.due("the clock", g.gridIs(12), 2);
        T.due("plan by rule 3", Tell.works(g, "plan 3"), 1);
        T.due("moved", g.demandIs(1, 4), 18);
        T.due("blocked is done", Tell.works(g, "ask 0 1 64 0;ask 0 1 64 0;relight 2"), 3);
        T.due("one of them", g.gridIs(7), 1);
        T.due("24 steps", Tell.works(g, "sweep;".repeat(23) + "sweep"), 24);
        T.due("the tape is empty", g.count(1), 0);
    }

    private static void worksRefused() {
        FlexGrid g = Tell.gridOf("slots 20;link 0 1 30");
        T.due("the second", Tell.works(g, "ask 0 1 8 0;drop 1;drop 0"), 1);
        T.due("and no more", g.demandIs(0, 3), 0);
        String[] refused = {"ask 0 0 1 0", "ask 0 2 1 0", "ask 0 1 0 0", "ask 0 1 65 0", "drop 1", "slide 1",
            "jump 0 1", "jump 0 19", "jump 1 0", "cut 1", "mend 0", "mend 1", "lasts 0 0", "lasts 1 1", "ticks 0"};
        for (String step : refused) {
            T.due("refused: " + step, Tell.works(g, step + ";ask 0 1 4 0"), 0);
        }
        T.due("a jump up is done", Tell.works(g, "jump 0 5;cut 0;cut 0"), 2);
        T.due("dark", g.demandIs(0, 3), 2);
        FlexGrid spoiled = Spoiled.grid();
        T.due("a plan that is spoiled", Tell.works(spoiled, "sweep;plan 0;sweep"), 1);
        FlexGrid full = Tell.gridOf("link 0 1 30");
        for (int i = 0; i < 40; i++) {
            full.ask(0, 1, 1, 0);
        }
        T.due("a 41st", Tell.works(full, "ask 0 1 1 0"), 0);
    }

    private static void worksFault(FlexGrid g, String text, int want) {
        T.due("works " + text, Tell.works(g, text), want);
    }

    private static void worksFaults() {
        FlexGrid g = Tell.gridOf("slots 20;link 0 1 30");
        worksFault(g, "asks 0 1 8 0", -1000);
        worksFault(g, "nodes 3", -1000);
        worksFault(g, "sweeps", -1000);
        worksFault(g, "sweep 1", -1005);
        worksFault(g, "sweep;", -1006);
        worksFault(g, "drop", -1004);
        worksFault(g, "drop 0 0", -1006);
        worksFault(g, "ask 0 1 8", -1009);
        worksFault(g, "drop 100", -3005);
        worksFault(g, "drop 000001", -2010);
        worksFault(g, "ask 0 1 100 0", -3008);
        worksFault(g, "ask 0 1 8 4", -3010);
        worksFault(g, "ask 0 1 8 0;relight 4", -3020);
        worksFault(g, "ask 0 1 8 0;plan 4", -3017);
        worksFault(g, "lasts 0 100", -3008);
        worksFault(g, "ticks 100", -3006);
        worksFault(g, "jump 0 100", -3007);
        worksFault(g, "cut 100", -3004);
        worksFault(g, "mend 100", -3005);
        worksFault(g, "slide 100", -3006);
        worksFault(g, "sweep;".repeat(24) + "x", -4144);
        worksFault(g, "sweep;".repeat(24), -4144);
        T.due("nothing was done", g.gridIs(5), 0);
    }

    private static void firstsChecked() {
        FlexGrid g = Tell.gridOf("slots 20;link 0 1 30");
        T.due("no demands", Tell.check(g), -1);
        T.due("behind all", Tell.check(g, 255), 0);
        g.ask(0, 1, 8, 0);
        g.ask(0, 1, 8, 0);
        g.ask(0, 1, 64, 0);
        g.ask(0, 1, 8, 3);
        g.drop(0);
        T.due("right", Tell.check(g, 255, 3, 255, 18), -1);
        T.due("the tape is empty", g.count(1), 0);
        T.due("not lit", Tell.check(g, 0, 3, 255, 18), 0);
        T.due("the second", Tell.check(g, 255, 4, 255, 17), 1);
        T.due("the third", Tell.check(g, 255, 3, 0, 18), 2);
        T.due("one behind all", Tell.check(g, 255, 3, 255, 18, 255), 4);
        T.due("the first ones", Tell.check(g, 255, 3), -1);
        Tell.feed(g, "slots 9");
        T.due("n below 0", g.check(-1), -2);
        T.due("n 21 of 20", g.check(21), -2);
        g.feed(0, 0, 0, 0, 0);
        g.feed(0, 0, 0, 0, 0);
        T.due("n 41", g.check(41), -2);
        T.due("the tape stays", g.count(1), 60);
        T.due("n 0", g.check(0), -1);
        T.due("empty then", g.count(1), 0);
    }

    private static void counts() {
        FlexGrid g = Tell.gridOf("slots 20;link 0 1 30");
        g.ask(0, 1, 8, 0);
        g.ask(0, 1, 64, 0);
        g.drop(0);
        g.feed(0, 0, 0, 0, 0);
        T.due("demands", g.count(0), 2);
        T.due("bytes", g.count(1), 20);
        T.due("clauses", g.count(2), 2);
        T.due("count 3", g.count(3), -1);
        T.due("count -1", g.count(-1), -1);
        T.due("count of the greatest", g.count(Integer.MAX_VALUE), -1);
    }
}
