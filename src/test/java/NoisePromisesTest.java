/** Promises 1 to 3 and 10 to 19: a new object, noises and their order, and the time. */
public final class NoisePromisesTest {
    private static final Checks CHECKS = new Checks();

    private NoisePromisesTest() {
    }

    public static void main(String[] args) {
        promise1NewObject();
        promise2AddNoise();
        promise2Refusals();
        promise3RemoveNoise();
        promise10Time();
        promise11WaitingCount();
        promise12WaitingAt();
        promise13RankOf();
        promise14Exists();
        promises15To17Properties();
        promises18And19Places();
        CHECKS.end();
    }

    private static void promise1NewObject() {
        NoiseMill mill = new NoiseMill();
        CHECKS.equal("time", mill.time(), 0);
        CHECKS.equal("waitingCount", mill.waitingCount(), 0);
        CHECKS.equal("doneCount", mill.doneCount(), 0);
        CHECKS.equal("groundTotal", mill.groundTotal(), 0);
        CHECKS.equal("groundByParts", mill.groundByParts(), 0);
        CHECKS.equal("groundBands", mill.groundBands(), 0);
        CHECKS.equal("lostInSieves", mill.lostInSieves(), 0);
        CHECKS.equal("lostForRoom", mill.lostForRoom(), 0);
        for (int wheel = 0; wheel < 3; wheel++) {
            CHECKS.equal("wheel", Mills.wheel(mill, wheel), wheel + "g1w0:-");
        }
        CHECKS.equal("sacks", Mills.sacks(mill), "0+0 0+0 0+0 0+0");
        for (int band = 0; band < 8; band++) {
            CHECKS.equal("mesh", mill.mesh(band), 3);
            CHECKS.equal("isBandGround", mill.isBandGround(band), false);
            for (int grade = 0; grade < 4; grade++) {
                CHECKS.equal("recorded", mill.recorded(band, grade), 0);
            }
        }
        for (int grade = 0; grade < 4; grade++) {
            CHECKS.equal("flour", mill.flour(grade), 0);
            CHECKS.equal("shippedSacks", mill.shippedSacks(grade), 0);
        }
        CHECKS.holds("isConsistent", mill.isConsistent());
        CHECKS.fails("undo", Mills.STATE, mill::undo);
        CHECKS.fails("restore", Mills.STATE, mill::restore);
    }

    private static void promise2AddNoise() {
        NoiseMill mill = new NoiseMill();
        CHECKS.equal("addNoise", mill.addNoise(0, 1, 1), 0);
        CHECKS.equal("addNoise", mill.addNoise(7, 9, 60), 1);
        CHECKS.equal("addNoise", mill.addNoise(3, 4, 25), 2);
        CHECKS.holds("isWaiting", mill.isWaiting(0) && mill.isWaiting(1) && mill.isWaiting(2));
        CHECKS.equal("amount", mill.amount(1), 60);
        mill.removeNoise(2);
        CHECKS.equal("a number is not used twice", mill.addNoise(3, 4, 25), 3);
        mill.advance(1);
        CHECKS.equal("number after steps", mill.addNoise(3, 4, 25), 4);
    }

    private static void promise2Refusals() {
        NoiseMill mill = Mills.full();
        CHECKS.equal("waitingCount", mill.waitingCount(), 12);
        CHECKS.fails("a 13th noise", Mills.STATE, () -> mill.addNoise(0, 5, 10));
        CHECKS.fails("band first", Mills.ARGUMENT, () -> mill.addNoise(8, 5, 10));
        CHECKS.fails("loudness first", Mills.ARGUMENT, () -> mill.addNoise(0, 0, 10));
        CHECKS.fails("amount first", Mills.ARGUMENT, () -> mill.addNoise(0, 5, 61));
        mill.advance(1);
        CHECKS.equal("waitingCount", mill.waitingCount(), 9);
        for (int number = 12; number < 15; number++) {
            CHECKS.equal("the refused ones got no number", mill.addNoise(1, 1, 1), number);
        }
        CHECKS.fails("15 exist, 12 wait", Mills.STATE, () -> mill.addNoise(0, 5, 10));
        NoiseMill other = new NoiseMill();
        int[][] wrong = {{-1, 5, 10}, {8, 5, 10}, {0, 0, 10}, {0, 10, 10}, {0, 5, 0}, {0, 5, 61}, {0, 5, -1}};
        for (int[] three : wrong) {
            CHECKS.fails("addNoise", Mills.ARGUMENT, () -> other.addNoise(three[0], three[1], three[2]));
        }
        for (int far : Mills.FAR_INTS) {
            CHECKS.fails("band " + far, Mills.ARGUMENT, () -> other.addNoise(far, 5, 10));
            CHECKS.fails("loudness " + far, Mills.ARGUMENT, () -> other.addNoise(0, far, 10));
            CHECKS.fails("amount " + far, Mills.ARGUMENT, () -> other.addNoise(0, 5, far));
        }
        CHECKS.equal("nothing was added", other.waitingCount(), 0);
        CHECKS.fails("a refused call is no change", Mills.STATE, other::undo);
    }

    private static void promise3RemoveNoise() {
        NoiseMill mill = new NoiseMill();
        mill.addNoise(1, 2, 33);
        mill.addNoise(2, 9, 44);
        mill.addNoise(3, 5, 55);
        CHECKS.equal("removeNoise", mill.removeNoise(0), 33);
        CHECKS.equal("exists", mill.exists(0), false);
        CHECKS.equal("order", Mills.order(mill), "1 2");
        CHECKS.equal("band of another", mill.band(2), 3);
        CHECKS.equal("amount of another", mill.amount(1), 44);
        CHECKS.fails("twice", Mills.ELEMENT, () -> mill.removeNoise(0));
        CHECKS.fails("never added", Mills.ELEMENT, () -> mill.removeNoise(3));
        CHECKS.fails("negative", Mills.ELEMENT, () -> mill.removeNoise(-1));
        mill.advance(1);
        CHECKS.fails("on a wheel", Mills.STATE, () -> mill.removeNoise(1));
        mill.releaseNoise(0);
        CHECKS.equal("what is left of it", mill.removeNoise(1), 42);
        CHECKS.equal("undo", mill.undo(), 6);
        CHECKS.equal("amount again", mill.amount(1), 42);
    }

    private static void promise10Time() {
        NoiseMill mill = new NoiseMill();
        mill.advance(1);
        CHECKS.equal("time", mill.time(), 1);
        mill.advance(40);
        CHECKS.equal("time", mill.time(), 41);
        mill.groundWithin(60);
        mill.addNoise(0, 1, 1);
        CHECKS.equal("only steps count", mill.time(), 41);
    }

    private static void promise11WaitingCount() {
        NoiseMill mill = new NoiseMill();
        mill.addNoise(0, 1, 1);
        CHECKS.equal("waitingCount", mill.waitingCount(), 1);
        for (int count = 0; count < 4; count++) {
            mill.addNoise(0, 1, 50);
        }
        CHECKS.equal("waitingCount", mill.waitingCount(), 5);
        mill.advance(1);
        CHECKS.equal("three are on wheels", mill.waitingCount(), 2);
        mill.releaseNoise(1);
        CHECKS.equal("one waits again", mill.waitingCount(), 3);
    }

    private static void promise12WaitingAt() {
        NoiseMill mill = new NoiseMill();
        CHECKS.fails("none waits", Mills.ELEMENT, () -> mill.waitingAt(0));
        int[] loudnesses = {4, 9, 4, 1, 9, 5, 4, 1, 9, 2, 3, 4};
        for (int loudness : loudnesses) {
            mill.addNoise(0, loudness, 10);
        }
        CHECKS.equal("order", Mills.order(mill), "1 4 8 5 0 2 6 11 10 9 3 7");
        mill.removeNoise(1);
        mill.removeNoise(2);
        mill.removeNoise(3);
        CHECKS.equal("order", Mills.order(mill), "4 8 5 0 6 11 10 9 7");
        CHECKS.fails("rank 9 of 9", Mills.ELEMENT, () -> mill.waitingAt(9));
        CHECKS.fails("rank -1", Mills.ELEMENT, () -> mill.waitingAt(-1));
        for (int far : Mills.FAR_INTS) {
            CHECKS.fails("rank " + far, Mills.ELEMENT, () -> mill.waitingAt(far));
        }
        mill.addNoise(0, 5, 10);
        CHECKS.equal("order", Mills.order(mill), "4 8 5 12 0 6 11 10 9 7");
        mill.advance(1);
        CHECKS.equal("order", Mills.order(mill), "12 0 6 11 10 9 7");
        mill.releaseNoise(2);
        CHECKS.equal("the lower number first", Mills.order(mill), "5 12 0 6 11 10 9 7");
        CHECKS.equal("asking changes nothing", mill.waitingAt(3), 6);
    }

    private static void promise13RankOf() {
        NoiseMill mill = new NoiseMill();
        int[] loudnesses = {4, 9, 4, 1};
        for (int loudness : loudnesses) {
            mill.addNoise(0, loudness, 50);
        }
        CHECKS.equal("rankOf", mill.rankOf(0), 1);
        CHECKS.equal("rankOf", mill.rankOf(1), 0);
        CHECKS.equal("rankOf", mill.rankOf(2), 2);
        CHECKS.equal("rankOf", mill.rankOf(3), 3);
        CHECKS.fails("no such noise", Mills.ELEMENT, () -> mill.rankOf(4));
        CHECKS.fails("no such noise", Mills.ELEMENT, () -> mill.rankOf(-1));
        mill.advance(1);
        CHECKS.equal("rankOf", mill.rankOf(3), 0);
        CHECKS.fails("on a wheel", Mills.STATE, () -> mill.rankOf(0));
        CHECKS.fails("on a wheel", Mills.STATE, () -> mill.rankOf(2));
    }

    private static void promise14Exists() {
        NoiseMill mill = new NoiseMill();
        CHECKS.equal("exists", mill.exists(0), false);
        CHECKS.equal("exists", mill.exists(-1), false);
        mill.addNoise(0, 5, 3);
        mill.addNoise(0, 4, 3);
        CHECKS.holds("waiting", mill.exists(0) && mill.exists(1));
        CHECKS.equal("exists", mill.exists(2), false);
        mill.advance(1);
        CHECKS.holds("on a wheel", mill.exists(0) && mill.exists(1));
        mill.removeNoise(mill.addNoise(0, 5, 5));
        mill.advance(1);
        CHECKS.equal("done", mill.exists(0) || mill.exists(1), false);
        CHECKS.equal("removed", mill.exists(2), false);
        for (int far : Mills.FAR_INTS) {
            CHECKS.equal("exists " + far, mill.exists(far), false);
        }
    }

    private static void promises15To17Properties() {
        NoiseMill mill = new NoiseMill();
        mill.addNoise(7, 2, 60);
        mill.addNoise(3, 9, 7);
        for (int round = 0; round < 2; round++) {
            CHECKS.equal("band", mill.band(0), 7);
            CHECKS.equal("band", mill.band(1), 3);
            CHECKS.equal("loudness", mill.loudness(0), 2);
            CHECKS.equal("loudness", mill.loudness(1), 9);
            CHECKS.equal("amount", mill.amount(0), 60 - 2 * round);
            CHECKS.equal("amount", mill.amount(1), 7 - 2 * round);
            mill.advance(1);
        }
        mill.advance(2);
        for (int noise : new int[] {1, 2, -1, Integer.MIN_VALUE, Integer.MAX_VALUE}) {
            CHECKS.fails("band", Mills.ELEMENT, () -> mill.band(noise));
            CHECKS.fails("loudness", Mills.ELEMENT, () -> mill.loudness(noise));
            CHECKS.fails("amount", Mills.ELEMENT, () -> mill.amount(noise));
        }
        CHECKS.equal("amount of the one that is left", mill.amount(0), 52);
    }

    private static void promises18And19Places() {
        NoiseMill mill = new NoiseMill();
        mill.addNoise(0, 2, 60);
        mill.addNoise(0, 3, 60);
        mill.addNoise(0, 4, 60);
        mill.addNoise(0, 1, 60);
        CHECKS.equal("isWaiting", mill.isWaiting(0), true);
        CHECKS.fails("it waits", Mills.ELEMENT, () -> mill.wheelOf(0));
        mill.advance(1);
        CHECKS.equal("isWaiting", mill.isWaiting(0), false);
        CHECKS.equal("isWaiting", mill.isWaiting(3), true);
        CHECKS.equal("wheelOf", mill.wheelOf(0), 2);
        CHECKS.equal("wheelOf", mill.wheelOf(1), 1);
        CHECKS.equal("wheelOf", mill.wheelOf(2), 0);
        CHECKS.fails("it waits", Mills.ELEMENT, () -> mill.wheelOf(3));
        mill.releaseNoise(1);
        CHECKS.equal("isWaiting", mill.isWaiting(1), true);
        CHECKS.fails("it waits again", Mills.ELEMENT, () -> mill.wheelOf(1));
        for (int noise : new int[] {4, -1, Integer.MIN_VALUE, Integer.MAX_VALUE}) {
            CHECKS.fails("isWaiting", Mills.ELEMENT, () -> mill.isWaiting(noise));
            CHECKS.fails("wheelOf", Mills.ELEMENT, () -> mill.wheelOf(noise));
        }
    }
}
