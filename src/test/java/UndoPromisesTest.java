/** Promises 57 to 59: undo and the snapshot. */
public final class UndoPromisesTest {
    private static final Checks CHECKS = new Checks();

    private UndoPromisesTest() {
    }

    public static void main(String[] args) {
        promise57OnlyEight();
        promise57NumbersAnew();
        promise57LostGrains();
        promise57Refusals();
        promise57LeavesTextsAlone();
        promises58And59Snapshot();
        promise58Replaces();
        promise59NothingToUndo();
        CHECKS.end();
    }

    private static void promise57OnlyEight() {
        NoiseMill mill = new NoiseMill();
        for (int count = 0; count < 11; count++) {
            mill.setMesh(0, count % 10);
        }
        CHECKS.equal("undo", mill.undo(), 7);
        CHECKS.equal("undo", mill.undo(), 6);
        CHECKS.equal("mesh", mill.mesh(0), 8);
        CHECKS.equal("a new change", mill.setMesh(0, 5), 8);
        CHECKS.equal("undo", mill.undo(), 6);
        CHECKS.equal("mesh", mill.mesh(0), 8);
        for (int left = 5; left >= 0; left--) {
            CHECKS.equal("undo", mill.undo(), left);
            CHECKS.equal("mesh", mill.mesh(0), left + 2);
        }
        CHECKS.fails("nothing to undo", Mills.STATE, mill::undo);
        CHECKS.equal("mesh", mill.mesh(0), 2);
    }

    private static void promise57NumbersAnew() {
        NoiseMill mill = new NoiseMill();
        mill.addNoise(1, 1, 10);
        mill.addNoise(2, 2, 20);
        CHECKS.equal("undo", mill.undo(), 1);
        CHECKS.equal("exists", mill.exists(1), false);
        CHECKS.equal("addNoise", mill.addNoise(3, 3, 30), 1);
        CHECKS.equal("band", mill.band(1), 3);
    }

    private static void promise57LostGrains() {
        NoiseMill mill = Mills.brimful();
        mill.setMesh(0, 2);
        mill.addNoise(0, 1, 20);
        String before = Mills.state(mill);
        mill.advance(1);
        CHECKS.equal("lostForRoom", mill.lostForRoom(), 8);
        mill.undo();
        CHECKS.equal("lostForRoom", mill.lostForRoom(), 0);
        CHECKS.equal("lostInSieves", mill.lostInSieves(), 0);
        CHECKS.equal("state", Mills.state(mill), before);
        CHECKS.equal("what is lost comes again", mill.advance(2), 20);
        CHECKS.equal("lostForRoom", mill.lostForRoom(), 16);
        CHECKS.holds("isConsistent", mill.isConsistent());
    }

    private static void promise57Refusals() {
        NoiseMill mill = new NoiseMill();
        CHECKS.fails("nothing to undo", Mills.STATE, mill::undo);
        CHECKS.fails("advance", Mills.ARGUMENT, () -> mill.advance(0));
        mill.save();
        mill.renderSacks();
        CHECKS.fails("none of these is a change", Mills.STATE, mill::undo);
        mill.setGear(0, 1);
        mill.clearWheel(0);
        CHECKS.equal("a change that changes nothing is one", mill.undo(), 1);
        CHECKS.equal("undo", mill.undo(), 0);
        CHECKS.fails("nothing to undo", Mills.STATE, mill::undo);
    }

    private static void promise57LeavesTextsAlone() {
        NoiseMill mill = new NoiseMill();
        mill.setGear(0, 4);
        mill.type('s');
        mill.renderWheel(0);
        mill.undo();
        CHECKS.equal("the buffer", mill.type('t'), 2);
        CHECKS.equal("the output text", Mills.output(mill, 7), "0g4w0:-");
        CHECKS.equal("gear", mill.gear(0), 1);
    }

    private static void promises58And59Snapshot() {
        NoiseMill mill = Mills.brimful();
        CHECKS.fails("no snapshot", Mills.STATE, mill::restore);
        CHECKS.equal("a refused restore leaves undo", mill.undo(), 7);
        mill.addNoise(2, 2, 22);
        mill.addNoise(2, 3, 33);
        mill.advance(1);
        mill.addNoise(4, 4, 44);
        String saved = Mills.state(mill);
        CHECKS.equal("save", mill.save(), 1);
        CHECKS.equal("save is no change", mill.undo(), 7);
        mill.addNoise(5, 5, 55);
        mill.addNoise(6, 5, 55);
        mill.setMesh(0, 9);
        mill.setGear(1, 4);
        mill.advance(40);
        mill.shipSacks(0, 1);
        CHECKS.equal("restore", mill.restore(), 1);
        mill.advance(3);
        mill.addNoise(1, 1, 1);
        CHECKS.equal("the snapshot is kept", mill.restore(), 1);
        CHECKS.equal("state", Mills.state(mill), saved);
        CHECKS.equal("its numbers too", mill.addNoise(1, 1, 1), 6);
    }

    private static void promise58Replaces() {
        NoiseMill mill = new NoiseMill();
        CHECKS.equal("save", mill.save(), 0);
        mill.addNoise(1, 1, 1);
        CHECKS.equal("save", mill.save(), 1);
        mill.addNoise(1, 1, 1);
        mill.undo();
        mill.undo();
        CHECKS.equal("undo leaves the snapshot", mill.restore(), 1);
    }

    private static void promise59NothingToUndo() {
        NoiseMill mill = new NoiseMill();
        mill.setGear(0, 2);
        mill.save();
        mill.setGear(0, 3);
        mill.type('s');
        mill.renderWheel(0);
        mill.restore();
        CHECKS.fails("nothing to undo", Mills.STATE, mill::undo);
        CHECKS.equal("the buffer", mill.type('t'), 2);
        CHECKS.equal("the output text", Mills.output(mill, 7), "0g3w0:-");
        mill.setGear(0, 5);
        CHECKS.equal("undo", mill.undo(), 0);
        CHECKS.equal("gear", mill.gear(0), 2);
    }
}
