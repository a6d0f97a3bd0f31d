import java.io.IOException;

/** The sentences under "Terms" that name an edge, each with a test of its own; and the 512 calls. */
public final class TermsTest {
    private static final Checks CHECKS = new Checks();

    private TermsTest() {
    }

    public static void main(String[] args) throws IOException {
        Document document = new Document(CHECKS);
        document.says("What it is", "An object is used for at most 512 calls after it has been made");
        calls512();
        document.says("Terms", "What is ground is sacked or lost.");
        groundIsSackedOrLost();
        document.says("Terms", "All integer divisions round down.");
        divisionsRoundDown();
        document.says("Terms", "Every noise gets a number; the numbers are 0, 1, 2 and so on in the order in which "
            + "noises are added, and no number is used twice.");
        numbers();
        document.says("Terms", "A noise has a band from 0 to 7, a loudness from 1 to 9, and an amount of grains that "
            + "are not ground yet, which is from 1 to 60 when it is added.");
        leastAndGreatestNoise();
        document.says("Terms", "A noise waits or is on a wheel.");
        waitsOrIsOnAWheel();
        document.says("Terms", "At most 12 noises wait.");
        twelveWait();
        document.says("Terms", "A noise whose amount becomes 0 is done and does not exist any more.");
        doneAtZero();
        document.says("Terms",
            "The waiting noises are ordered by loudness, the greatest first, and then by number, the "
            + "lowest first.");
        orderOfWaiting();
        document.says("Terms", "There are the wheels 0 to 2.");
        threeWheels();
        document.says("Terms",
            "A wheel has a gear from 1 to 5, initially 1, and a wear, initially 0, and holds at most "
            + "one noise.");
        wheelAtFirst();
        document.says("Terms", "It is jammed if its wear is at least 12.");
        jammedFrom12();
        document.says("Terms", "For each band there is a sieve with a mesh from 0 to 9, initially 3.");
        meshes();
        document.says("Terms", "The grade of a mesh is the mesh divided by 3, so it is from 0 to 3.");
        gradeOfEachMesh();
        document.says("Terms", "A sack holds 20 grains.");
        sackOf20();
        document.says("Terms",
            "The flour of a grade that is in the mill is from 0 to 139 grains: these are full sacks, "
            + "as many as possible, and the rest is in an open sack.");
        flourUpTo139();
        document.says("Terms",
            "When grains of a grade are sacked, they become flour of this grade; only the grains that "
            + "would make it more than 139 are lost, for want of room.");
        lostBeyond139();
        document.says("Terms", "Full sacks can be shipped; then they are not in the mill any more.");
        shippedAreGone();
        document.says("Terms", "In a step, the time, which is 0 at first, increases by 1.");
        timeOfSteps();
        document.says("Terms", "Then the wheels act in the order of their numbers.");
        wheelsInOrder();
        document.says("Terms", "A jammed wheel does nothing and keeps the noise that it holds.");
        jammedKeepsItsNoise();
        document.says("Terms", "Any other wheel that holds no noise takes the first waiting noise, if there is one.");
        takesTheFirst();
        document.says("Terms",
            "If it holds a noise then, it grinds twice as many grains as its gear, but not more than "
            + "the amount of the noise; the amount decreases by the number of ground grains, and the wear of the wheel "
            + "increases by its gear.");
        grindsTwiceItsGear();
        document.says("Terms",
            "Of the ground grains, their number times the mesh for the band of the noise, divided by "
            + "10, are lost in the sieve; the others are sacked with the grade of this mesh.");
        lostInTheSieve();
        document.says("Terms", "A wheel whose noise is done takes another one in the next step at the earliest.");
        takesInTheNextStep();
        document.says("Terms",
            "For each band and each grade, the grains that were sacked from noises of this band with "
            + "this grade are recorded; grains that were lost are not.");
        onlySackedIsRecorded();
        document.says("Terms", "Shipping does not change the records.");
        shippingLeavesRecords();
        document.says("Terms", "The latest 8 noises that were done are remembered.");
        eightRemembered();
        document.says("Terms", "A prediction describes what would happen if nothing but steps happened from now on. It "
            + "does not change the state.");
        predictions();
        CHECKS.end();
    }

    private static void calls512() {
        NoiseMill steps = new NoiseMill();
        for (int call = 1; call <= 511; call++) {
            steps.advance(40);
        }
        CHECKS.equal("the 512th call", steps.time(), 511 * 40);
        NoiseMill numbers = new NoiseMill();
        for (int pair = 0; pair < 256; pair++) {
            int number = numbers.addNoise(1, 1, 1 + pair % 60);
            CHECKS.equal("the 512th call, of pairs", numbers.removeNoise(number), 1 + number % 60);
        }
        NoiseMill checked = Mills.full();
        for (int call = 13; call <= 512; call++) {
            CHECKS.equal("the 512th call, of checks", checked.isConsistent(), true);
        }
        NoiseMill scripts = new NoiseMill();
        for (int script = 0; script < 64; script++) {
            Mills.type(scripts, "step 40");
            CHECKS.equal("the 512th call, of scripts", scripts.runScript(), 1);
        }
        NoiseMill undone = new NoiseMill();
        for (int pair = 0; pair < 256; pair++) {
            undone.addNoise(1, 1, 1);
            CHECKS.equal("the 512th call, of undone ones", undone.undo(), 0);
        }
        NoiseMill ground = new NoiseMill();
        for (int round = 0; round < 128; round++) {
            ground.addNoise(round % 8, 9, 20);
            ground.advance(12);
            ground.clearWheel(0);
            CHECKS.equal("the 512th call, of ground ones", ground.groundTotal(), 20 * round + 20);
        }
    }

    private static void groundIsSackedOrLost() {
        NoiseMill mill = Mills.withFlour(130);
        mill.setMesh(0, 2);
        mill.addNoise(0, 9, 60);
        mill.addNoise(1, 8, 60);
        mill.setMesh(1, 8);
        for (int step = 0; step < 3; step++) {
            mill.advance(1);
            int parts = mill.flour(0) + mill.flour(2) + mill.lostInSieves() + mill.lostForRoom();
            CHECKS.equal("groundTotal", mill.groundTotal(), parts);
        }
        CHECKS.equal("130, 30 and 6", mill.groundTotal(), 166);
    }

    private static void divisionsRoundDown() {
        NoiseMill mill = new NoiseMill();
        mill.setMesh(5, 8);
        mill.addNoise(5, 5, 1);
        mill.addNoise(5, 4, 4);
        mill.setGear(1, 2);
        mill.advance(1);
        CHECKS.equal("8 tenths of 1 are 0, and of 4 are 3", mill.lostInSieves(), 3);
        CHECKS.equal("mesh 8 is of grade 2", mill.flour(2), 2);
        CHECKS.equal("39 grains are one full sack", Mills.withFlour(39).fullSacks(0), 1);
    }

    private static void numbers() {
        NoiseMill mill = new NoiseMill();
        for (int number = 0; number < 12; number++) {
            CHECKS.equal("number", mill.addNoise(number % 8, 9 - number % 9, 1), number);
        }
        mill.removeNoise(11);
        CHECKS.equal("the number of the latest one, removed, is not used again", mill.addNoise(0, 1, 1), 12);
        for (int number = 0; number < 13; number++) {
            if (number != 11) {
                mill.removeNoise(number);
            }
        }
        CHECKS.equal("nor are the others", mill.addNoise(0, 1, 1), 13);
        mill.advance(1);
        CHECKS.equal("nor is that of a done one", mill.addNoise(0, 1, 1), 14);
        CHECKS.fails("no 8", Mills.ARGUMENT, () -> mill.addNoise(8, 1, 1));
        CHECKS.equal("a refused call uses no number", mill.addNoise(0, 1, 1), 15);
    }

    private static void leastAndGreatestNoise() {
        NoiseMill mill = new NoiseMill();
        mill.addNoise(0, 1, 1);
        mill.addNoise(7, 9, 60);
        CHECKS.equal("the least", mill.band(0) + " " + mill.loudness(0) + " " + mill.amount(0), "0 1 1");
        CHECKS.equal("the greatest", mill.band(1) + " " + mill.loudness(1) + " " + mill.amount(1), "7 9 60");
        mill.setGear(0, 5);
        mill.advance(1);
        CHECKS.equal("what is not ground yet", mill.amount(1), 50);
    }

    private static void waitsOrIsOnAWheel() {
        NoiseMill mill = Mills.full();
        mill.advance(2);
        int waiting = 0;
        for (int noise = 0; noise < 12; noise++) {
            int one = noise;
            String wheel = Mills.told(() -> mill.wheelOf(one));
            CHECKS.equal("isWaiting", mill.isWaiting(noise), wheel.startsWith("NoSuch"));
            waiting += mill.isWaiting(noise) ? 1 : 0;
        }
        CHECKS.equal("9 wait", waiting, mill.waitingCount());
    }

    private static void twelveWait() {
        NoiseMill mill = Mills.full();
        CHECKS.equal("12 wait", mill.waitingCount(), 12);
        CHECKS.fails("no 13th", Mills.STATE, () -> mill.addNoise(1, 1, 1));
        mill.advance(1);
        for (int count = 0; count < 3; count++) {
            mill.addNoise(1, 1, 1);
        }
        CHECKS.equal("12 wait besides the 3 on wheels", mill.waitingCount(), 12);
        CHECKS.fails("no 13th", Mills.STATE, () -> mill.addNoise(1, 1, 1));
        CHECKS.fails("nor one from a wheel", Mills.STATE, () -> mill.releaseNoise(2));
        CHECKS.equal("nor one from a script", Mills.script(mill, "noise 1 1 1"), "failed at 0");
        CHECKS.equal("nor so", Mills.script(mill, "drop 12;release 1;release 0"), "failed at 2");
    }

    private static void doneAtZero() {
        NoiseMill mill = new NoiseMill();
        mill.addNoise(0, 9, 2);
        mill.addNoise(0, 8, 3);
        mill.advance(1);
        CHECKS.equal("2 grains at gear 1", mill.exists(0), false);
        CHECKS.equal("the wheel is free", Mills.wheel(mill, 0), "0g1w1:-");
        CHECKS.equal("doneCount", mill.doneCount(), 1);
        CHECKS.equal("3 grains at gear 1", mill.amount(1), 1);
        mill.advance(1);
        CHECKS.equal("the last grain", mill.exists(1), false);
        CHECKS.equal("doneCount", mill.doneCount(), 2);
        CHECKS.fails("it does not exist", Mills.ELEMENT, () -> mill.amount(1));
    }

    private static void orderOfWaiting() {
        NoiseMill mill = new NoiseMill();
        for (int loudness : new int[] {1, 9, 5, 5, 9, 1}) {
            mill.addNoise(0, loudness, 30);
        }
        CHECKS.equal("order", Mills.order(mill), "1 4 2 3 0 5");
        for (int rank = 0; rank < 6; rank++) {
            CHECKS.equal("rankOf", mill.rankOf(mill.waitingAt(rank)), rank);
        }
        mill.removeNoise(1);
        CHECKS.equal("without the first", Mills.order(mill), "4 2 3 0 5");
        mill.advance(1);
        CHECKS.equal("4, 2 and 3 are on wheels", Mills.order(mill), "0 5");
        mill.addNoise(0, 5, 1);
        mill.releaseNoise(2);
        mill.releaseNoise(1);
        CHECKS.equal("released ones by their old numbers", Mills.order(mill), "2 3 6 0 5");
    }

    private static void threeWheels() {
        NoiseMill mill = Mills.full();
        CHECKS.equal("each grinds 2 grains", mill.advance(1), 6);
        for (int wheel = 0; wheel < 3; wheel++) {
            CHECKS.equal("wheel", Mills.wheel(mill, wheel), wheel + "g1w1:" + wheel + "x8");
        }
        CHECKS.fails("no wheel 3", Mills.INDEX, () -> mill.wear(3));
        CHECKS.fails("no wheel -1", Mills.INDEX, () -> mill.wear(-1));
    }

    private static void wheelAtFirst() {
        NoiseMill mill = Mills.full();
        for (int wheel = 0; wheel < 3; wheel++) {
            CHECKS.equal("gear", mill.gear(wheel), 1);
            CHECKS.equal("wear", mill.wear(wheel), 0);
            for (int gear = 1; gear <= 5; gear++) {
                mill.setGear(wheel, gear);
                CHECKS.equal("gear", mill.gear(wheel), gear);
            }
            mill.setGear(wheel, 1);
        }
        mill.advance(2);
        CHECKS.equal("one noise a wheel, in the second step too", mill.waitingCount(), 9);
        CHECKS.equal("and the same one", mill.amount(0) + mill.amount(1) + mill.amount(2), 18);
    }

    private static void jammedFrom12() {
        int[][] gearsAndWears = {{1, 11}, {1, 12}, {3, 12}, {4, 12}, {5, 15}, {2, 10}, {2, 12}};
        for (int[] two : gearsAndWears) {
            NoiseMill mill = new NoiseMill();
            mill.addNoise(0, 1, 60);
            mill.setGear(0, two[0]);
            mill.advance(two[1] / two[0]);
            CHECKS.equal("wear", mill.wear(0), two[1]);
            CHECKS.equal("isJammed at wear " + two[1], mill.isJammed(0), two[1] >= 12);
            int ground = mill.advance(1);
            CHECKS.equal("it grinds at wear " + two[1], ground > 0, two[1] < 12);
        }
    }

    private static void meshes() {
        NoiseMill mill = new NoiseMill();
        for (int band = 0; band < 8; band++) {
            CHECKS.equal("initially", mill.mesh(band), 3);
            mill.setMesh(band, 9 - band);
        }
        for (int band = 0; band < 8; band++) {
            CHECKS.equal("each band has its own", mill.mesh(band), 9 - band);
            mill.setMesh(band, 0);
            CHECKS.equal("the least", mill.mesh(band), 0);
        }
    }

    private static void gradeOfEachMesh() {
        int[] grades = {0, 0, 0, 1, 1, 1, 2, 2, 2, 3};
        for (int mesh = 0; mesh <= 9; mesh++) {
            NoiseMill mill = new NoiseMill();
            mill.setMesh(6, mesh);
            mill.addNoise(6, 1, 1);
            mill.advance(1);
            for (int grade = 0; grade < 4; grade++) {
                int due = grade == grades[mesh] ? 1 : 0;
                CHECKS.equal("flour of grade " + grade + " with mesh " + mesh, mill.flour(grade), due);
                CHECKS.equal("recorded", mill.recorded(6, grade), due);
            }
        }
    }

    private static void sackOf20() {
        for (int grains : new int[] {1, 19, 20, 21, 39, 40, 41, 119, 120, 121}) {
            NoiseMill mill = Mills.withFlour(grains);
            CHECKS.equal("fullSacks of " + grains, mill.fullSacks(0), grains / 20);
            CHECKS.equal("openSack of " + grains, mill.openSack(0), grains % 20);
        }
        NoiseMill mill = Mills.withFlour(20);
        CHECKS.equal("20 grains can be shipped", mill.shipSacks(0, 1), 0);
        CHECKS.equal("flour", mill.flour(0), 0);
        CHECKS.fails("19 cannot", Mills.UNSUPPORTED, () -> Mills.withFlour(19).shipSacks(0, 1));
    }

    private static void flourUpTo139() {
        for (int grains : new int[] {0, 1, 138, 139, 140, 160}) {
            NoiseMill mill = Mills.withFlour(grains);
            int due = grains < 139 ? grains : 139;
            CHECKS.equal("flour of " + grains, mill.flour(0), due);
            CHECKS.equal("flourByRecords of " + grains, mill.flourByRecords(0), due);
            CHECKS.equal("full sacks and the open one", mill.fullSacks(0) * 20 + mill.openSack(0), due);
            CHECKS.holds("the open one is not full", mill.openSack(0) < 20);
            CHECKS.equal("the other grades", mill.flour(1) + mill.flour(2) + mill.flour(3), 0);
        }
        CHECKS.equal("139", Mills.sacks(Mills.withFlour(139)), "6+19 0+0 0+0 0+0");
        CHECKS.equal("0", Mills.sacks(Mills.withFlour(0)), "0+0 0+0 0+0 0+0");
    }

    private static void lostBeyond139() {
        int[][] grainsAndLost = {{129, 0}, {130, 1}, {135, 6}, {138, 9}, {139, 10}};
        for (int[] two : grainsAndLost) {
            NoiseMill mill = Mills.withFlour(two[0]);
            Mills.grind(mill, 0, 10);
            CHECKS.equal("10 more than " + two[0], mill.flour(0), 139);
            CHECKS.equal("lostForRoom", mill.lostForRoom(), two[1]);
            CHECKS.equal("recorded", mill.recorded(0, 0), 139);
            Mills.grind(mill, 1, 2);
            CHECKS.equal("a full grade takes no room from another", mill.flour(1), 2);
            CHECKS.equal("lostForRoom", mill.lostForRoom(), two[1]);
        }
    }

    private static void shippedAreGone() {
        NoiseMill mill = Mills.withFlour(60);
        CHECKS.equal("2 of 3", mill.shipSacks(0, 2), 1);
        CHECKS.equal("flour", mill.flour(0), 20);
        CHECKS.fails("they cannot be shipped again", Mills.UNSUPPORTED, () -> mill.shipSacks(0, 2));
        CHECKS.equal("the last", mill.shipSacks(0, 1), 0);
        CHECKS.equal("flour", mill.flour(0), 0);
        CHECKS.equal("shippedSacks", mill.shippedSacks(0), 3);
    }

    private static void timeOfSteps() {
        NoiseMill mill = new NoiseMill();
        CHECKS.equal("at first", mill.time(), 0);
        mill.advance(1);
        CHECKS.equal("a step", mill.time(), 1);
        mill.advance(40);
        CHECKS.equal("40 steps more", mill.time(), 41);
        mill.addNoise(0, 1, 1);
        mill.advance(1);
        CHECKS.equal("done in step 42, after the time increased", mill.doneTime(0), 42);
    }

    private static void wheelsInOrder() {
        NoiseMill mill = Mills.withFlour(138);
        mill.setGear(0, 1);
        mill.setMesh(4, 0);
        mill.addNoise(4, 3, 1);
        mill.addNoise(4, 5, 1);
        mill.addNoise(0, 9, 1);
        mill.advance(1);
        CHECKS.equal("the loudest to wheel 0, and so on", Mills.log(mill).substring(0, 20), "3@2@15 4@1@15 5@0@15");
        CHECKS.equal("wheel 0 came first into the last room", mill.recorded(0, 0), 139);
        CHECKS.equal("wheel 1 and 2 found none", mill.recorded(4, 0), 0);
        CHECKS.equal("lostForRoom", mill.lostForRoom(), 2);
    }

    private static void jammedKeepsItsNoise() {
        NoiseMill mill = new NoiseMill();
        mill.addNoise(0, 1, 60);
        mill.setGear(0, 4);
        mill.advance(3);
        CHECKS.equal("jammed", Mills.wheel(mill, 0), "0g4w12!:0x36");
        CHECKS.equal("it does nothing", mill.advance(40), 0);
        CHECKS.equal("no more wear", Mills.wheel(mill, 0), "0g4w12!:0x36");
        mill.releaseNoise(0);
        mill.setGear(1, 5);
        mill.advance(1);
        CHECKS.equal("nor does it take one", Mills.wheel(mill, 0), "0g4w12!:-");
        CHECKS.equal("another wheel does", mill.wheelOf(0), 1);
    }

    private static void takesTheFirst() {
        NoiseMill mill = new NoiseMill();
        mill.advance(1);
        CHECKS.equal("there is none", Mills.wheel(mill, 0), "0g1w0:-");
        mill.addNoise(0, 4, 30);
        mill.addNoise(0, 6, 30);
        mill.addNoise(0, 6, 30);
        mill.addNoise(0, 2, 30);
        mill.advance(1);
        CHECKS.equal("in their order", mill.noiseOn(0) + " " + mill.noiseOn(1) + " " + mill.noiseOn(2), "1 2 0");
        mill.addNoise(0, 9, 30);
        mill.advance(1);
        CHECKS.equal("a louder one does not drive them off", Mills.order(mill), "4 3");
        mill.releaseNoise(1);
        mill.advance(1);
        CHECKS.equal("a free wheel takes the first", mill.noiseOn(1), 4);
    }

    private static void grindsTwiceItsGear() {
        for (int gear = 1; gear <= 5; gear++) {
            for (int amount = 1; amount <= 12; amount++) {
                NoiseMill mill = new NoiseMill();
                mill.setGear(0, gear);
                mill.addNoise(0, 5, amount);
                int due = Math.min(2 * gear, amount);
                CHECKS.equal("gear " + gear + " of " + amount, mill.advance(1), due);
                CHECKS.equal("wear", mill.wear(0), gear);
                CHECKS.equal("exists", mill.exists(0), due < amount);
                CHECKS.equal("amount", due < amount ? mill.amount(0) : 0, amount - due);
                CHECKS.equal("groundTotal", mill.groundTotal(), due);
            }
        }
    }

    private static void lostInTheSieve() {
        for (int mesh = 0; mesh <= 9; mesh++) {
            for (int amount = 1; amount <= 10; amount++) {
                NoiseMill mill = new NoiseMill();
                mill.setGear(0, 5);
                mill.setMesh(2, mesh);
                mill.setMesh(1, 9 - mesh);
                mill.addNoise(2, 5, amount);
                mill.advance(1);
                int lost = amount * mesh / 10;
                CHECKS.equal("mesh " + mesh + " of " + amount, mill.lostInSieves(), lost);
                CHECKS.equal("flour", mill.flour(mesh / 3), amount - lost);
                CHECKS.equal("lostForRoom", mill.lostForRoom(), 0);
            }
        }
        NoiseMill mill = Mills.withFlour(0);
        mill.addNoise(0, 5, 30);
        mill.advance(1);
        mill.setMesh(0, 9);
        mill.advance(1);
        CHECKS.equal("the mesh of the step counts", mill.flour(0) + " " + mill.flour(3), "10 1");
    }

    private static void takesInTheNextStep() {
        NoiseMill mill = new NoiseMill();
        mill.addNoise(0, 9, 1);
        mill.addNoise(0, 8, 60);
        mill.addNoise(0, 7, 60);
        mill.addNoise(0, 6, 60);
        mill.advance(1);
        CHECKS.equal("not in the same step", Mills.wheel(mill, 0), "0g1w1:-");
        CHECKS.equal("noise 3 waits", mill.isWaiting(3), true);
        mill.advance(1);
        CHECKS.equal("in the next", Mills.wheel(mill, 0), "0g1w2:3x58");
        NoiseMill jam = new NoiseMill();
        jam.addNoise(0, 9, 24);
        jam.advance(1);
        jam.addNoise(0, 8, 60);
        jam.addNoise(0, 8, 60);
        jam.addNoise(0, 8, 60);
        jam.advance(40);
        CHECKS.equal("not if it is jammed then", Mills.wheel(jam, 0), "0g1w12!:-");
        CHECKS.equal("so one waits for ever", Mills.order(jam), "3");
    }

    private static void onlySackedIsRecorded() {
        NoiseMill mill = Mills.withFlour(134);
        mill.setMesh(0, 1);
        Mills.grind(mill, 0, 10);
        CHECKS.equal("1 in the sieve, 4 for want of room", mill.recorded(0, 0), 139);
        CHECKS.equal("lost", mill.lostInSieves() + " " + mill.lostForRoom(), "1 4");
        mill.setMesh(0, 4);
        Mills.grind(mill, 0, 10);
        CHECKS.equal("another grade", mill.recorded(0, 1), 6);
        Mills.grind(mill, 7, 10);
        CHECKS.equal("another band", mill.recorded(7, 1), 7);
        CHECKS.equal("the first stays", mill.recorded(0, 0), 139);
        CHECKS.equal("both bands", mill.flour(1), 13);
    }

    private static void shippingLeavesRecords() {
        NoiseMill mill = Mills.withFlour(125);
        mill.shipSacks(0, 6);
        CHECKS.equal("recorded", mill.recorded(0, 0), 125);
        CHECKS.equal("groundByParts", mill.groundByParts(), 125);
        CHECKS.equal("bandByGrains", mill.bandByGrains(0), 0);
        Mills.grind(mill, 0, 10);
        CHECKS.equal("recorded", mill.recorded(0, 0), 135);
        CHECKS.equal("flour", mill.flour(0) + " " + mill.flourByRecords(0), "15 15");
    }

    private static void eightRemembered() {
        for (int count = 0; count <= 18; count++) {
            NoiseMill mill = Mills.manyDone(count);
            CHECKS.equal("doneCount", mill.doneCount(), count);
            for (int recency = 0; recency < 8; recency++) {
                int one = recency;
                String due = recency < count ? "" + (count - 1 - recency) : "NoSuchElementException";
                CHECKS.equal(recency + " of " + count, Mills.told(() -> mill.doneNumber(one)), due);
            }
            CHECKS.fails("8 of " + count, Mills.ELEMENT, () -> mill.doneNumber(8));
        }
    }

    private static void predictions() {
        for (int steps = 1; steps <= 40; steps++) {
            NoiseMill mill = Mills.full();
            mill.setGear(2, 4);
            int due = mill.groundWithin(steps);
            CHECKS.equal("groundWithin " + steps, mill.advance(steps), due);
        }
        NoiseMill mill = Mills.busy();
        String before = Mills.state(mill);
        for (int wheel = 0; wheel < 3; wheel++) {
            int one = wheel;
            Mills.told(() -> mill.stepsUntilDone(one));
            Mills.told(() -> mill.stepsUntilDoneByRate(one));
            Mills.told(() -> mill.stepsUntilJam(one));
        }
        mill.groundWithin(60);
        mill.isConsistent();
        CHECKS.equal("state", Mills.state(mill), before);
        CHECKS.equal("they are no changes", mill.undo(), 7);
    }
}
