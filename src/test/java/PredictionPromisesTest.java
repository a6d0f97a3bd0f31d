/** Promises 37 to 40: predictions. */
public final class PredictionPromisesTest {
    private static final Checks CHECKS = new Checks();

    private PredictionPromisesTest() {
    }

    public static void main(String[] args) {
        promises37And38StepsUntilDone();
        promises37And38EveryStart();
        promise39StepsUntilJam();
        promise39ByTheWorkThatIsLeft();
        promise40GroundWithin();
        predictionsChangeNothing();
        CHECKS.end();
    }

    private static void promises37And38StepsUntilDone() {
        NoiseMill mill = new NoiseMill();
        notDone("no noise", mill, 0);
        mill.addNoise(0, 1, 24);
        notDone("it waits", mill, 0);
        mill.advance(1);
        done("22 at 2, wear 1", mill, 0, 11);
        mill.setGear(0, 2);
        done("22 at 4, wear 1: the jam comes with the last", mill, 0, 6);
        mill.setGear(0, 5);
        done("22 at 10, wear 1", mill, 0, 3);
        mill.setGear(0, 1);
        mill.advance(10);
        done("2 left", mill, 0, 1);
        mill.addNoise(0, 1, 60);
        mill.advance(1);
        notDone("done", mill, 0);
        mill.advance(1);
        notDone("wheel 0 is jammed and empty", mill, 0);
        int[] wrong = {-1, 3, Integer.MIN_VALUE, Integer.MAX_VALUE};
        for (int wheel : wrong) {
            CHECKS.fails("stepsUntilDone", Mills.INDEX, () -> mill.stepsUntilDone(wheel));
            CHECKS.fails("stepsUntilDoneByRate", Mills.INDEX, () -> mill.stepsUntilDoneByRate(wheel));
        }
    }

    /** Wheel 2 is brought to each wear with each amount left; the rest is worked out by hand's rule. */
    private static void promises37And38EveryStart() {
        for (int amount = 3; amount <= 60; amount += 3) {
            for (int worn = 1; worn <= 12; worn++) {
                NoiseMill mill = new NoiseMill();
                mill.addNoise(3, 1, amount);
                mill.advance(Math.min(worn, (amount + 1) / 2));
                for (int gear = 1; gear <= 5; gear++) {
                    mill.setGear(0, gear);
                    int left = mill.exists(0) ? mill.amount(0) : 0;
                    int wear = mill.wear(0);
                    int steps = 0;
                    while (left > 0 && wear < 12) {
                        left -= 2 * gear;
                        wear += gear;
                        steps++;
                    }
                    if (steps > 0 && left <= 0) {
                        done("amount " + amount + " worn " + worn + " gear " + gear, mill, 0, steps);
                    } else {
                        notDone("amount " + amount + " worn " + worn + " gear " + gear, mill, 0);
                    }
                }
            }
        }
    }

    private static void done(String what, NoiseMill mill, int wheel, int due) {
        CHECKS.equal(what, mill.stepsUntilDone(wheel), due);
        CHECKS.equal(what + ", by rate", mill.stepsUntilDoneByRate(wheel), due);
    }

    private static void notDone(String what, NoiseMill mill, int wheel) {
        CHECKS.fails(what, Mills.ELEMENT, () -> mill.stepsUntilDone(wheel));
        CHECKS.fails(what + ", by rate", Mills.ELEMENT, () -> mill.stepsUntilDoneByRate(wheel));
    }

    private static void promise39StepsUntilJam() {
        NoiseMill mill = new NoiseMill();
        CHECKS.fails("nothing to grind", Mills.ELEMENT, () -> mill.stepsUntilJam(0));
        mill.setGear(0, 5);
        mill.setGear(1, 3);
        mill.addNoise(0, 1, 60);
        CHECKS.equal("a waiting noise will be taken", mill.stepsUntilJam(0), 3);
        CHECKS.fails("and none is left for wheel 1", Mills.ELEMENT, () -> mill.stepsUntilJam(1));
        mill.addNoise(0, 1, 18);
        mill.addNoise(0, 1, 2);
        CHECKS.fails("3 steps of gear 3 do not jam", Mills.ELEMENT, () -> mill.stepsUntilJam(1));
        mill.addNoise(0, 1, 60);
        CHECKS.equal("wheel 1: noise 1 in 3 steps; wheel 2 takes noise 3 in step 2", mill.stepsUntilJam(2), 12);
        mill.addNoise(0, 1, 1);
        CHECKS.equal("wheel 1 takes noise 4 in step 4", mill.stepsUntilJam(1), 4);
        mill.advance(3);
        CHECKS.equal("jammed now", mill.stepsUntilJam(0), 0);
        CHECKS.equal("one more", mill.stepsUntilJam(1), 1);
        int[] wrong = {-1, 3, Integer.MIN_VALUE, Integer.MAX_VALUE};
        for (int wheel : wrong) {
            CHECKS.fails("stepsUntilJam", Mills.INDEX, () -> mill.stepsUntilJam(wheel));
        }
    }

    /** No wheel stands idle while noises wait, so it jams within 12 steps or never. */
    private static void promise39ByTheWorkThatIsLeft() {
        NoiseMill mill = new NoiseMill();
        for (int count = 0; count < 11; count++) {
            mill.addNoise(0, 1, 1);
        }
        CHECKS.fails("11 noises of a grain over 3 wheels", Mills.ELEMENT, () -> mill.stepsUntilJam(0));
        mill.addNoise(0, 1, 60);
        CHECKS.fails("wheel 0 has 4 steps", Mills.ELEMENT, () -> mill.stepsUntilJam(0));
        CHECKS.equal("the long one comes to wheel 2 in step 4", mill.stepsUntilJam(2), 3 + 9);
    }

    private static void promise40GroundWithin() {
        NoiseMill mill = new NoiseMill();
        CHECKS.equal("groundWithin", mill.groundWithin(60), 0);
        mill.setGear(0, 3);
        mill.addNoise(1, 4, 10);
        mill.addNoise(2, 9, 30);
        mill.addNoise(1, 4, 5);
        mill.addNoise(7, 1, 60);
        CHECKS.equal("groundWithin", mill.groundWithin(0), 0);
        CHECKS.equal("groundWithin", mill.groundWithin(1), 10);
        CHECKS.equal("groundWithin", mill.groundWithin(5), 43);
        CHECKS.equal("groundWithin", mill.groundWithin(11), 55);
        CHECKS.equal("groundWithin", mill.groundWithin(41), 57);
        CHECKS.equal("groundWithin", mill.groundWithin(60), 57);
        CHECKS.fails("-1 steps", Mills.ARGUMENT, () -> mill.groundWithin(-1));
        CHECKS.fails("61 steps", Mills.ARGUMENT, () -> mill.groundWithin(61));
        for (int far : Mills.FAR_INTS) {
            CHECKS.fails("steps " + far, Mills.ARGUMENT, () -> mill.groundWithin(far));
        }
        CHECKS.equal("only what comes", mill.advance(5), 43);
        CHECKS.equal("only what comes", mill.groundWithin(60), 14);
    }

    private static void predictionsChangeNothing() {
        NoiseMill mill = Mills.full();
        mill.advance(2);
        String before = Mills.state(mill);
        mill.groundWithin(60);
        mill.stepsUntilDone(0);
        mill.stepsUntilDoneByRate(0);
        mill.stepsUntilJam(0);
        mill.isConsistent();
        CHECKS.equal("state", Mills.state(mill), before);
        CHECKS.equal("they are no changes", mill.undo(), 7);
    }
}
