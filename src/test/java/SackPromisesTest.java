/** Promises 5, 8 and 24 to 36: sieves, sacks, records and what is lost. */
public final class SackPromisesTest {
    private static final Checks CHECKS = new Checks();

    private SackPromisesTest() {
    }

    public static void main(String[] args) {
        promises5And24Mesh();
        promises5And35SieveOfEachMesh();
        promise8ShipSacks();
        promise8Refusals();
        promises25And26GroundBands();
        promises27To30Flour();
        promise28FlourByRecords();
        promise31ShippedSacks();
        promise32Recorded();
        promises33To36Totals();
        promise36RoomAfterShipping();
        wrongGrades();
        CHECKS.end();
    }

    private static void promises5And24Mesh() {
        NoiseMill mill = new NoiseMill();
        CHECKS.equal("setMesh", mill.setMesh(7, 9), 3);
        CHECKS.equal("setMesh", mill.setMesh(7, 0), 9);
        CHECKS.equal("setMesh", mill.setMesh(7, 0), 0);
        CHECKS.equal("mesh", mill.mesh(7), 0);
        CHECKS.equal("mesh of another", mill.mesh(6), 3);
        CHECKS.equal("setMesh", mill.setMesh(0, 4), 3);
        CHECKS.equal("mesh", mill.mesh(0), 4);
        int[][] wrong = {{-1, 3}, {8, 3}, {0, -1}, {0, 10}, {8, 10}};
        for (int[] two : wrong) {
            CHECKS.fails("setMesh", Mills.ARGUMENT, () -> mill.setMesh(two[0], two[1]));
        }
        CHECKS.fails("band -1", Mills.ARGUMENT, () -> mill.mesh(-1));
        CHECKS.fails("band 8", Mills.ARGUMENT, () -> mill.mesh(8));
        for (int far : Mills.FAR_INTS) {
            CHECKS.fails("band " + far, Mills.ARGUMENT, () -> mill.setMesh(far, 3));
            CHECKS.fails("mesh " + far, Mills.ARGUMENT, () -> mill.setMesh(3, far));
            CHECKS.fails("band " + far, Mills.ARGUMENT, () -> mill.mesh(far));
        }
        CHECKS.equal("four changes", mill.undo(), 3);
        CHECKS.equal("mesh", mill.mesh(0), 3);
    }

    /** Grinds 10, then 6, then 1 grains with each mesh: what is held back is rounded down each time. */
    private static void promises5And35SieveOfEachMesh() {
        for (int mesh = 0; mesh <= 9; mesh++) {
            NoiseMill mill = new NoiseMill();
            mill.setMesh(4, mesh);
            mill.addNoise(4, 1, 17);
            mill.setGear(0, 5);
            mill.advance(1);
            CHECKS.equal("lostInSieves", mill.lostInSieves(), mesh);
            mill.setGear(0, 3);
            mill.advance(1);
            mill.advance(1);
            int[] ofSix = {0, 0, 1, 1, 2, 3, 3, 4, 4, 5};
            int lost = mesh + ofSix[mesh];
            CHECKS.equal("lostInSieves with mesh " + mesh, mill.lostInSieves(), lost);
            CHECKS.equal("flour with mesh " + mesh, mill.flour(mesh / 3), 17 - lost);
            CHECKS.equal("recorded with mesh " + mesh, mill.recorded(4, mesh / 3), 17 - lost);
            CHECKS.equal("lostForRoom", mill.lostForRoom(), 0);
        }
    }

    private static void promise8ShipSacks() {
        NoiseMill mill = Mills.brimful();
        CHECKS.equal("shipSacks", mill.shipSacks(0, 2), 4);
        CHECKS.equal("flour", mill.flour(0), 99);
        CHECKS.equal("openSack stays", mill.openSack(0), 19);
        CHECKS.equal("shipSacks", mill.shipSacks(0, 4), 0);
        CHECKS.equal("flour", mill.flour(0), 19);
        CHECKS.equal("undo", mill.undo(), 7);
        CHECKS.equal("flour", mill.flour(0), 99);
        CHECKS.equal("shippedSacks", mill.shippedSacks(0), 2);
        NoiseMill other = Mills.brimful();
        CHECKS.equal("all six", other.shipSacks(0, 6), 0);
    }

    private static void promise8Refusals() {
        NoiseMill mill = Mills.brimful();
        mill.shipSacks(0, 1);
        CHECKS.fails("6 of 5", Mills.UNSUPPORTED, () -> mill.shipSacks(0, 6));
        CHECKS.fails("1 of 0", Mills.UNSUPPORTED, () -> mill.shipSacks(1, 1));
        CHECKS.fails("0 sacks", Mills.ARGUMENT, () -> mill.shipSacks(0, 0));
        CHECKS.fails("7 sacks", Mills.ARGUMENT, () -> mill.shipSacks(0, 7));
        CHECKS.fails("7 sacks of 0", Mills.ARGUMENT, () -> mill.shipSacks(3, 7));
        CHECKS.fails("grade -1", Mills.ARGUMENT, () -> mill.shipSacks(-1, 1));
        CHECKS.fails("grade 4", Mills.ARGUMENT, () -> mill.shipSacks(4, 1));
        for (int far : Mills.FAR_INTS) {
            CHECKS.fails("grade " + far, Mills.ARGUMENT, () -> mill.shipSacks(far, 1));
            CHECKS.fails("sacks " + far, Mills.ARGUMENT, () -> mill.shipSacks(0, far));
        }
        CHECKS.equal("flour", mill.flour(0), 119);
        CHECKS.equal("shippedSacks", mill.shippedSacks(0), 1);
    }

    private static void promises25And26GroundBands() {
        NoiseMill mill = new NoiseMill();
        mill.addNoise(0, 3, 2);
        mill.addNoise(7, 2, 2);
        mill.addNoise(7, 1, 2);
        mill.addNoise(3, 1, 2);
        CHECKS.equal("only waiting", mill.groundBands(), 0);
        mill.advance(1);
        CHECKS.equal("groundBands", mill.groundBands(), 2);
        CHECKS.equal("isBandGround", mill.isBandGround(0) && mill.isBandGround(7), true);
        CHECKS.equal("isBandGround", mill.isBandGround(3), false);
        mill.advance(1);
        CHECKS.equal("isBandGround", mill.isBandGround(3), true);
        CHECKS.equal("groundBands", mill.groundBands(), 3);
        mill.undo();
        CHECKS.equal("undone", mill.isBandGround(3), false);
        CHECKS.fails("band -1", Mills.ARGUMENT, () -> mill.isBandGround(-1));
        CHECKS.fails("band 8", Mills.ARGUMENT, () -> mill.isBandGround(8));
        for (int far : Mills.FAR_INTS) {
            CHECKS.fails("band " + far, Mills.ARGUMENT, () -> mill.isBandGround(far));
        }
        NoiseMill brimful = Mills.brimful();
        brimful.setMesh(5, 0);
        brimful.addNoise(5, 1, 2);
        brimful.advance(1);
        CHECKS.equal("nothing of it was sacked", brimful.recorded(5, 0), 0);
        CHECKS.equal("but it was ground", brimful.isBandGround(5), true);
        CHECKS.equal("groundBands", brimful.groundBands(), 2);
    }

    private static void promises27To30Flour() {
        NoiseMill mill = new NoiseMill();
        mill.setMesh(1, 9);
        mill.setMesh(2, 6);
        mill.setMesh(0, 2);
        mill.addNoise(0, 9, 24);
        mill.addNoise(1, 8, 24);
        mill.addNoise(2, 7, 24);
        mill.setGear(0, 5);
        mill.setGear(1, 4);
        mill.advance(3);
        CHECKS.equal("10, 10 and 4 less 2, 2 and 0", mill.flour(0), 20);
        CHECKS.equal("flour", mill.flour(1), 0);
        CHECKS.equal("2, 2 and 2 less 1 each", mill.flour(2), 3);
        CHECKS.equal("8, 8 and 8 less 7 each", mill.flour(3), 3);
        CHECKS.equal("fullSacks", mill.fullSacks(0), 1);
        CHECKS.equal("openSack", mill.openSack(0), 0);
        CHECKS.equal("fullSacks", mill.fullSacks(3), 0);
        CHECKS.equal("openSack", mill.openSack(3), 3);
        NoiseMill brimful = Mills.brimful();
        CHECKS.equal("flour", brimful.flour(0), 139);
        CHECKS.equal("fullSacks", brimful.fullSacks(0), 6);
        CHECKS.equal("openSack", brimful.openSack(0), 19);
    }

    private static void promise28FlourByRecords() {
        NoiseMill mill = Mills.brimful();
        CHECKS.equal("flourByRecords", mill.flourByRecords(0), 139);
        mill.shipSacks(0, 3);
        CHECKS.equal("flourByRecords", mill.flourByRecords(0), 79);
        mill.setMesh(6, 1);
        mill.addNoise(6, 1, 20);
        mill.advance(2);
        CHECKS.equal("from two bands", mill.flourByRecords(0), 79 + 18);
        CHECKS.equal("flour", mill.flour(0), 97);
        CHECKS.equal("another grade", mill.flourByRecords(1), 0);
    }

    private static void promise31ShippedSacks() {
        NoiseMill mill = Mills.brimful();
        CHECKS.equal("shippedSacks", mill.shippedSacks(0), 0);
        mill.shipSacks(0, 2);
        mill.shipSacks(0, 3);
        CHECKS.equal("shippedSacks", mill.shippedSacks(0), 5);
        CHECKS.equal("shippedSacks of another", mill.shippedSacks(1), 0);
    }

    private static void promise32Recorded() {
        NoiseMill mill = new NoiseMill();
        mill.setGear(0, 5);
        mill.addNoise(7, 1, 30);
        mill.advance(1);
        mill.setMesh(7, 9);
        mill.advance(1);
        mill.setMesh(7, 3);
        mill.advance(1);
        CHECKS.equal("recorded", mill.recorded(7, 1), 14);
        CHECKS.equal("recorded", mill.recorded(7, 3), 1);
        CHECKS.equal("recorded", mill.recorded(7, 0) + mill.recorded(7, 2) + mill.recorded(0, 1), 0);
        NoiseMill brimful = Mills.brimful();
        brimful.shipSacks(0, 6);
        CHECKS.equal("shipping does not change it", brimful.recorded(0, 0), 139);
        int[][] wrong = {{-1, 0}, {8, 0}, {0, -1}, {0, 4}};
        for (int[] two : wrong) {
            CHECKS.fails("recorded", Mills.ARGUMENT, () -> brimful.recorded(two[0], two[1]));
        }
        for (int far : Mills.FAR_INTS) {
            CHECKS.fails("band " + far, Mills.ARGUMENT, () -> brimful.recorded(far, 0));
            CHECKS.fails("grade " + far, Mills.ARGUMENT, () -> brimful.recorded(0, far));
        }
    }

    private static void promises33To36Totals() {
        NoiseMill mill = Mills.brimful();
        CHECKS.equal("groundTotal", mill.groundTotal(), 139);
        CHECKS.equal("lostForRoom", mill.lostForRoom(), 0);
        mill.setMesh(1, 2);
        mill.addNoise(1, 1, 20);
        mill.advance(1);
        CHECKS.equal("2 of 10 in the sieve", mill.lostInSieves(), 2);
        CHECKS.equal("8 of 10 for want of room", mill.lostForRoom(), 8);
        CHECKS.equal("flour", mill.flour(0), 139);
        CHECKS.equal("lost grains are not recorded", mill.recorded(1, 0), 0);
        CHECKS.equal("groundTotal", mill.groundTotal(), 149);
        CHECKS.equal("groundByParts", mill.groundByParts(), 149);
        mill.shipSacks(0, 6);
        CHECKS.equal("groundByParts", mill.groundByParts(), 149);
        mill.advance(1);
        CHECKS.equal("groundTotal", mill.groundTotal(), 159);
        CHECKS.equal("groundByParts", mill.groundByParts(), 159);
        CHECKS.equal("lostInSieves", mill.lostInSieves(), 4);
        CHECKS.equal("lostForRoom", mill.lostForRoom(), 8);
    }

    private static void promise36RoomAfterShipping() {
        NoiseMill mill = Mills.brimful();
        mill.shipSacks(0, 1);
        mill.addNoise(0, 1, 24);
        mill.advance(3);
        CHECKS.equal("20 find room", mill.flour(0), 139);
        CHECKS.equal("only what is too much is lost", mill.lostForRoom(), 4);
        CHECKS.equal("recorded", mill.recorded(0, 0), 159);
        mill.addNoise(2, 1, 10);
        mill.clearWheel(0);
        mill.advance(1);
        CHECKS.equal("another grade has room", mill.lostForRoom(), 4);
        CHECKS.equal("flour", mill.flour(1), 7);
    }

    private static void wrongGrades() {
        NoiseMill mill = Mills.brimful();
        int[] wrong = {-1, 4, 7, Integer.MIN_VALUE, Integer.MAX_VALUE};
        for (int grade : wrong) {
            CHECKS.fails("flour", Mills.ARGUMENT, () -> mill.flour(grade));
            CHECKS.fails("flourByRecords", Mills.ARGUMENT, () -> mill.flourByRecords(grade));
            CHECKS.fails("fullSacks", Mills.ARGUMENT, () -> mill.fullSacks(grade));
            CHECKS.fails("openSack", Mills.ARGUMENT, () -> mill.openSack(grade));
            CHECKS.fails("shippedSacks", Mills.ARGUMENT, () -> mill.shippedSacks(grade));
        }
    }
}
