/** A grid whose REPACK by RULE 0 is spoiled: DEMAND 2 fills LINK 0, where DEMAND 1 is to go first. */
final class Spoiled {
    private Spoiled() { }

    static FlexGrid grid() {
        FlexGrid g = Tell.gridOf("nodes 3;slots 8;between 0;link 0 1 30;link 1 2 30;link 0 2 90");
        g.ask(0, 1, 32, 0);
        g.ask(0, 2, 6, 0);
        g.drop(0);
        g.ask(0, 1, 32, 0);
        return g;
    }
}
