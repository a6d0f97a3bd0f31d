/** Promises 41 to 49: the log, rankings, shares and the check. */
public final class LogAndRankingPromisesTest {
    private static final Checks CHECKS = new Checks();

    private LogAndRankingPromisesTest() {
    }

    public static void main(String[] args) {
        promises41To44Log();
        promise45WheelByWear();
        promise46BandByGrains();
        promise47MeanLoudness();
        promise48LostShare();
        promise49IsConsistent();
        CHECKS.end();
    }

    private static void promises41To44Log() {
        NoiseMill mill = new NoiseMill();
        noEntry(mill, 0);
        mill.addNoise(0, 9, 1);
        mill.addNoise(0, 8, 4);
        mill.addNoise(0, 7, 2);
        mill.advance(1);
        CHECKS.equal("doneCount", mill.doneCount(), 2);
        CHECKS.equal("wheel 2 acts after wheel 0", Mills.log(mill), "2@2@1 0@0@1");
        noEntry(mill, 2);
        mill.removeNoise(mill.addNoise(0, 1, 1));
        CHECKS.equal("removed is not done", mill.doneCount(), 2);
        mill.advance(1);
        CHECKS.equal("log", Mills.log(mill), "1@1@2 2@2@1 0@0@1");
        for (int count = 0; count < 6; count++) {
            mill.addNoise(0, 9 - count, 1);
        }
        mill.advance(2);
        CHECKS.equal("doneCount", mill.doneCount(), 9);
        CHECKS.equal("log", Mills.log(mill), "9@2@4 8@1@4 7@0@4 6@2@3 5@1@3 4@0@3 1@1@2 2@2@1");
        noEntry(mill, 8);
        noEntry(mill, -1);
        for (int far : Mills.FAR_INTS) {
            noEntry(mill, far);
        }
        mill.undo();
        CHECKS.equal("undone", Mills.log(mill), "1@1@2 2@2@1 0@0@1");
        noEntry(mill, 3);
    }

    private static void noEntry(NoiseMill mill, int recency) {
        CHECKS.fails("doneNumber " + recency, Mills.ELEMENT, () -> mill.doneNumber(recency));
        CHECKS.fails("doneWheel " + recency, Mills.ELEMENT, () -> mill.doneWheel(recency));
        CHECKS.fails("doneTime " + recency, Mills.ELEMENT, () -> mill.doneTime(recency));
    }

    private static void wheels(NoiseMill mill, int first, int second, int third) {
        CHECKS.equal("wheelByWear 0", mill.wheelByWear(0), first);
        CHECKS.equal("wheelByWear 1", mill.wheelByWear(1), second);
        CHECKS.equal("wheelByWear 2", mill.wheelByWear(2), third);
    }

    private static void promise45WheelByWear() {
        NoiseMill mill = new NoiseMill();
        wheels(mill, 0, 1, 2);
        mill.setGear(2, 4);
        wheels(mill, 2, 0, 1);
        mill.setGear(1, 4);
        wheels(mill, 1, 2, 0);
        mill.setGear(1, 1);
        mill.setGear(2, 1);
        mill.addNoise(0, 1, 60);
        mill.addNoise(0, 1, 60);
        mill.advance(1);
        wheels(mill, 0, 1, 2);
        mill.setGear(2, 5);
        wheels(mill, 0, 1, 2);
        mill.setGear(1, 2);
        wheels(mill, 1, 0, 2);
        mill.clearWheel(0);
        wheels(mill, 1, 2, 0);
        for (int rank : new int[] {-1, 3, Integer.MIN_VALUE, Integer.MAX_VALUE}) {
            CHECKS.fails("wheelByWear " + rank, Mills.ELEMENT, () -> mill.wheelByWear(rank));
        }
    }

    private static String bands(NoiseMill mill) {
        StringBuilder text = new StringBuilder();
        for (int rank = 0; rank < 8; rank++) {
            text.append(mill.bandByGrains(rank));
        }
        return text.toString();
    }

    private static void promise46BandByGrains() {
        NoiseMill mill = new NoiseMill();
        CHECKS.equal("bands", bands(mill), "01234567");
        mill.setMesh(5, 1);
        mill.setMesh(2, 9);
        mill.setMesh(7, 1);
        CHECKS.equal("by mesh", bands(mill), "57013462");
        mill.addNoise(2, 9, 20);
        mill.setGear(0, 5);
        mill.advance(1);
        CHECKS.equal("by grains", bands(mill), "25701346");
        mill.addNoise(6, 9, 1);
        mill.advance(1);
        CHECKS.equal("2 grains of band 2, 1 of band 6", bands(mill), "26570134");
        mill.addNoise(6, 9, 1);
        mill.advance(1);
        CHECKS.equal("2 of each, mesh 9 of band 2", bands(mill), "62570134");
        mill.setMesh(6, 9);
        CHECKS.equal("2 of each, mesh 9 of both", bands(mill), "26570134");
        mill.setMesh(6, 0);
        mill.addNoise(6, 9, 1);
        mill.advance(1);
        mill.setMesh(6, 9);
        CHECKS.equal("band 6 has 2 of grade 1 and 1 of grade 0", bands(mill), "62570134");
        for (int rank : new int[] {-1, 8, Integer.MIN_VALUE, Integer.MAX_VALUE}) {
            CHECKS.fails("bandByGrains " + rank, Mills.ELEMENT, () -> mill.bandByGrains(rank));
        }
    }

    private static void promise47MeanLoudness() {
        NoiseMill mill = new NoiseMill();
        CHECKS.fails("none waits", Mills.ARITHMETIC, mill::meanLoudness);
        mill.addNoise(0, 9, 60);
        CHECKS.equal("meanLoudness", mill.meanLoudness(), 9.0);
        mill.addNoise(0, 1, 60);
        mill.addNoise(0, 1, 60);
        CHECKS.equal("meanLoudness", mill.meanLoudness(), 11.0 / 3.0);
        mill.addNoise(0, 6, 60);
        mill.advance(1);
        CHECKS.equal("only the one that waits", mill.meanLoudness(), 1.0);
        mill.removeNoise(2);
        CHECKS.fails("all are on wheels", Mills.ARITHMETIC, mill::meanLoudness);
    }

    private static void promise48LostShare() {
        NoiseMill mill = new NoiseMill();
        CHECKS.fails("nothing was ground", Mills.ARITHMETIC, mill::lostShare);
        mill.addNoise(0, 9, 60);
        CHECKS.fails("nothing was ground", Mills.ARITHMETIC, mill::lostShare);
        mill.advance(1);
        CHECKS.equal("0 of 2", mill.lostShare(), 0.0f);
        mill.setGear(0, 2);
        mill.advance(1);
        CHECKS.equal("1 of 6", mill.lostShare(), 1.0f / 6.0f);
        NoiseMill single = new NoiseMill();
        single.addNoise(0, 1, 1);
        single.advance(1);
        CHECKS.equal("0 of 1", single.lostShare(), 0.0f);
        NoiseMill brimful = Mills.brimful();
        brimful.setMesh(1, 2);
        brimful.addNoise(1, 1, 10);
        brimful.advance(1);
        CHECKS.equal("2 in the sieve and 8 for room of 149", brimful.lostShare(), 10.0f / 149.0f);
    }

    private static void promise49IsConsistent() {
        NoiseMill mill = new NoiseMill();
        CHECKS.holds("isConsistent", mill.isConsistent());
        mill.setGear(0, 5);
        mill.setGear(1, 2);
        for (int count = 0; count < 12; count++) {
            mill.addNoise(count % 8, 1 + count * 5 % 9, 5 + count * 4);
            CHECKS.holds("isConsistent", mill.isConsistent());
        }
        for (int count = 0; count < 30; count++) {
            mill.advance(1);
            mill.clearWheel(count % 3);
            CHECKS.holds("isConsistent", mill.isConsistent());
        }
        NoiseMill brimful = Mills.brimful();
        brimful.shipSacks(0, 3);
        brimful.addNoise(0, 1, 60);
        brimful.setGear(0, 5);
        brimful.advance(40);
        CHECKS.holds("isConsistent", brimful.isConsistent());
    }
}
