/** Promises 4, 6, 7, 9 and 20 to 23: wheels and steps. */
public final class WheelPromisesTest {
    private static final Checks CHECKS = new Checks();

    private WheelPromisesTest() {
    }

    public static void main(String[] args) {
        promises4And21Gear();
        promise6ClearWheel();
        promise7ReleaseNoise();
        promise7Refusals();
        promise9Advance();
        promise9Refusals();
        promise9DoneWheelsWaitAStep();
        promise20NoiseOn();
        promises22And23WearAndJam();
        CHECKS.end();
    }

    private static void promises4And21Gear() {
        NoiseMill mill = new NoiseMill();
        CHECKS.equal("gear", mill.gear(1), 1);
        CHECKS.equal("setGear", mill.setGear(1, 5), 1);
        CHECKS.equal("setGear", mill.setGear(1, 2), 5);
        CHECKS.equal("setGear", mill.setGear(1, 2), 2);
        CHECKS.equal("gear", mill.gear(1), 2);
        CHECKS.equal("gear of another", mill.gear(0) + mill.gear(2), 2);
        CHECKS.fails("gear 0", Mills.ARGUMENT, () -> mill.setGear(0, 0));
        CHECKS.fails("gear 6", Mills.ARGUMENT, () -> mill.setGear(2, 6));
        CHECKS.fails("wheel -1", Mills.INDEX, () -> mill.setGear(-1, 1));
        CHECKS.fails("wheel 3", Mills.INDEX, () -> mill.setGear(3, 1));
        CHECKS.fails("the wheel first", Mills.INDEX, () -> mill.setGear(3, 6));
        CHECKS.fails("wheel -1", Mills.INDEX, () -> mill.gear(-1));
        CHECKS.fails("wheel 3", Mills.INDEX, () -> mill.gear(3));
        for (int far : Mills.FAR_INTS) {
            CHECKS.fails("wheel " + far, Mills.INDEX, () -> mill.setGear(far, 1));
            CHECKS.fails("wheel " + far, Mills.INDEX, () -> mill.gear(far));
            CHECKS.fails("gear " + far, Mills.ARGUMENT, () -> mill.setGear(0, far));
        }
        CHECKS.equal("three changes", mill.undo(), 2);
        mill.setGear(0, 3);
        mill.addNoise(0, 1, 50);
        mill.addNoise(0, 1, 50);
        CHECKS.equal("6 grains and 4", mill.advance(1), 10);
    }

    private static void promise6ClearWheel() {
        NoiseMill mill = new NoiseMill();
        CHECKS.equal("clearWheel", mill.clearWheel(0), 0);
        mill.setGear(0, 5);
        mill.addNoise(0, 1, 60);
        mill.advance(1);
        CHECKS.equal("not jammed", mill.clearWheel(0), 5);
        CHECKS.equal("wear", mill.wear(0), 0);
        mill.advance(3);
        CHECKS.equal("jammed", mill.isJammed(0), true);
        CHECKS.equal("jammed", mill.clearWheel(0), 15);
        CHECKS.equal("isJammed", mill.isJammed(0), false);
        CHECKS.equal("it keeps the noise", mill.noiseOn(0), 0);
        CHECKS.equal("it keeps the gear", mill.gear(0), 5);
        CHECKS.equal("it grinds again", mill.advance(1), 10);
        CHECKS.fails("wheel -1", Mills.INDEX, () -> mill.clearWheel(-1));
        CHECKS.fails("wheel 3", Mills.INDEX, () -> mill.clearWheel(3));
        for (int far : Mills.FAR_INTS) {
            CHECKS.fails("wheel " + far, Mills.INDEX, () -> mill.clearWheel(far));
        }
        mill.undo();
        CHECKS.equal("undo", mill.undo(), 6);
        CHECKS.equal("wear is back", mill.wear(0), 15);
    }

    private static void promise7ReleaseNoise() {
        NoiseMill mill = new NoiseMill();
        mill.setGear(2, 4);
        mill.addNoise(5, 3, 60);
        mill.addNoise(6, 2, 50);
        mill.addNoise(7, 1, 40);
        mill.advance(2);
        CHECKS.equal("releaseNoise", mill.releaseNoise(2), 2);
        CHECKS.equal("amount", mill.amount(2), 24);
        CHECKS.equal("band", mill.band(2), 7);
        CHECKS.equal("loudness", mill.loudness(2), 1);
        CHECKS.equal("wheel", Mills.wheel(mill, 2), "2g4w8:-");
        CHECKS.equal("releaseNoise", mill.releaseNoise(0), 0);
        CHECKS.equal("order", Mills.order(mill), "0 2");
        mill.advance(1);
        CHECKS.equal("it is taken again", mill.wheelOf(0), 0);
        CHECKS.equal("jammed with its noise", Mills.wheel(mill, 2), "2g4w12!:2x16");
        CHECKS.equal("a jammed wheel gives it back too", mill.releaseNoise(2), 2);
        mill.advance(5);
        CHECKS.equal("and takes none", mill.isWaiting(2), true);
    }

    private static void promise7Refusals() {
        NoiseMill mill = Mills.full();
        CHECKS.fails("no noise, although 12 wait", Mills.ELEMENT, () -> mill.releaseNoise(0));
        CHECKS.fails("wheel -1", Mills.INDEX, () -> mill.releaseNoise(-1));
        CHECKS.fails("wheel 3", Mills.INDEX, () -> mill.releaseNoise(3));
        for (int far : Mills.FAR_INTS) {
            CHECKS.fails("wheel " + far, Mills.INDEX, () -> mill.releaseNoise(far));
        }
        mill.advance(1);
        for (int count = 0; count < 3; count++) {
            mill.addNoise(0, 1, 1);
        }
        CHECKS.fails("12 wait", Mills.STATE, () -> mill.releaseNoise(1));
        CHECKS.equal("it stays", mill.noiseOn(1), 1);
        mill.removeNoise(14);
        CHECKS.equal("11 wait", mill.releaseNoise(1), 1);
        CHECKS.fails("12 wait", Mills.STATE, () -> mill.releaseNoise(0));
        CHECKS.fails("no noise first", Mills.ELEMENT, () -> mill.releaseNoise(1));
    }

    private static void promise9Advance() {
        NoiseMill mill = new NoiseMill();
        CHECKS.equal("nothing to grind", mill.advance(3), 0);
        CHECKS.equal("no wear without a noise", mill.wear(0), 0);
        mill.setGear(0, 3);
        mill.addNoise(1, 4, 10);
        mill.addNoise(2, 9, 30);
        mill.addNoise(1, 4, 5);
        mill.addNoise(7, 1, 60);
        CHECKS.equal("6, 2 and 2 grains", mill.advance(1), 10);
        CHECKS.equal("wheel", Mills.wheel(mill, 0), "0g3w3:1x24");
        CHECKS.equal("wheel", Mills.wheel(mill, 1), "1g1w1:0x8");
        CHECKS.equal("wheel", Mills.wheel(mill, 2), "2g1w1:2x3");
        CHECKS.equal("2: 10, 3: 9, 4: 10, 5: 4", mill.advance(4), 33);
        CHECKS.equal("wheel", Mills.wheel(mill, 0), "0g3w12!:1x6");
        CHECKS.equal("wheel", Mills.wheel(mill, 1), "1g1w5:-");
        CHECKS.equal("wheel", Mills.wheel(mill, 2), "2g1w5:3x56");
        CHECKS.equal("the full wear for a last grain", mill.groundTotal(), 43);
        CHECKS.equal("steps to the jam of wheel 2", mill.advance(40), 14);
        CHECKS.equal("time", mill.time(), 48);
        CHECKS.equal("all is stuck", mill.advance(1), 0);
    }

    private static void promise9Refusals() {
        NoiseMill mill = new NoiseMill();
        mill.addNoise(0, 5, 30);
        CHECKS.fails("0 steps", Mills.ARGUMENT, () -> mill.advance(0));
        CHECKS.fails("41 steps", Mills.ARGUMENT, () -> mill.advance(41));
        for (int far : Mills.FAR_INTS) {
            CHECKS.fails("steps " + far, Mills.ARGUMENT, () -> mill.advance(far));
        }
        CHECKS.equal("time", mill.time(), 0);
        CHECKS.equal("40 steps", mill.advance(40), 24);
    }

    private static void promise9DoneWheelsWaitAStep() {
        NoiseMill mill = new NoiseMill();
        mill.setGear(0, 5);
        mill.setGear(1, 5);
        mill.setGear(2, 5);
        for (int count = 0; count < 4; count++) {
            mill.addNoise(0, 5, 4);
        }
        CHECKS.equal("three noises, each done at once", mill.advance(1), 12);
        CHECKS.equal("none is taken in the same step", mill.waitingCount(), 1);
        CHECKS.equal("doneCount", mill.doneCount(), 3);
        CHECKS.equal("wear by the gear, not by the grains", mill.wear(0), 5);
        CHECKS.equal("the next step", mill.advance(1), 4);
        CHECKS.equal("wheel", Mills.wheel(mill, 0), "0g5w10:-");
        CHECKS.equal("wheel", Mills.wheel(mill, 1), "1g5w5:-");
    }

    private static void promise20NoiseOn() {
        NoiseMill mill = new NoiseMill();
        CHECKS.fails("it holds none", Mills.ELEMENT, () -> mill.noiseOn(0));
        mill.addNoise(0, 1, 5);
        mill.addNoise(0, 2, 5);
        mill.advance(1);
        CHECKS.equal("noiseOn", mill.noiseOn(0), 1);
        CHECKS.equal("noiseOn", mill.noiseOn(1), 0);
        CHECKS.fails("it holds none", Mills.ELEMENT, () -> mill.noiseOn(2));
        mill.advance(2);
        CHECKS.fails("done", Mills.ELEMENT, () -> mill.noiseOn(0));
        CHECKS.fails("wheel -1", Mills.INDEX, () -> mill.noiseOn(-1));
        CHECKS.fails("wheel 3", Mills.INDEX, () -> mill.noiseOn(3));
        for (int far : Mills.FAR_INTS) {
            CHECKS.fails("wheel " + far, Mills.INDEX, () -> mill.noiseOn(far));
        }
    }

    private static void promises22And23WearAndJam() {
        NoiseMill mill = new NoiseMill();
        mill.addNoise(0, 1, 60);
        mill.advance(11);
        CHECKS.equal("wear", mill.wear(0), 11);
        CHECKS.equal("isJammed", mill.isJammed(0), false);
        mill.setGear(0, 5);
        CHECKS.equal("a last time", mill.advance(1), 10);
        CHECKS.equal("wear", mill.wear(0), 16);
        CHECKS.equal("isJammed", mill.isJammed(0), true);
        mill.setGear(0, 1);
        mill.clearWheel(0);
        mill.advance(12);
        CHECKS.equal("wear", mill.wear(0), 12);
        CHECKS.equal("isJammed at 12", mill.isJammed(0), true);
        CHECKS.equal("wear of another", mill.wear(1), 0);
        CHECKS.equal("isJammed of another", mill.isJammed(1), false);
        CHECKS.fails("wheel -1", Mills.INDEX, () -> mill.wear(-1));
        CHECKS.fails("wheel 3", Mills.INDEX, () -> mill.wear(3));
        CHECKS.fails("wheel -1", Mills.INDEX, () -> mill.isJammed(-1));
        CHECKS.fails("wheel 3", Mills.INDEX, () -> mill.isJammed(3));
        for (int far : Mills.FAR_INTS) {
            CHECKS.fails("wheel " + far, Mills.INDEX, () -> mill.wear(far));
            CHECKS.fails("wheel " + far, Mills.INDEX, () -> mill.isJammed(far));
        }
    }
}
