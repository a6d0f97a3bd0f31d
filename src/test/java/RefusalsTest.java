import java.io.IOException;
import java.util.function.Function;
import java.util.function.IntFunction;
import java.util.function.Supplier;

/**
 * Each sentence of the document that begins with "Throws": the last values that are taken, the first
 * ones that are refused, with which exception, and that a refused call leaves everything as it was.
 */
public final class RefusalsTest {
    private static final Checks CHECKS = new Checks();
    private static final int PROBES = 4;
    private static Document document;

    private RefusalsTest() {
    }

    public static void main(String[] args) throws IOException {
        document = new Document(CHECKS);
        document.says("Terms", "A method that throws an exception changes nothing, unless its description says otherwise.");
        promise2AddNoise();
        promise3RemoveNoise();
        promise4SetGear();
        promise5SetMesh();
        promise6ClearWheel();
        promise7ReleaseNoise();
        promise8ShipSacks();
        promise9Advance();
        promises12And13Ranks();
        promises15To18Noises();
        promises19And20Places();
        promises21To23Wheels();
        promises24And25Bands();
        promises27To31Grades();
        promise32Recorded();
        promises37And38StepsUntilDone();
        promise39StepsUntilJam();
        promise40GroundWithin();
        promises42To44Log();
        promises45And46Rankings();
        promises47And48Shares();
        promises50And52Output();
        promise53Type();
        promise54RunScript();
        promises55And56LatestScripts();
        promises57And59UndoAndRestore();
        document.saysAllRefusalsQuoted();
        CHECKS.end();
    }

    /** A call on a mill; its answer as an object. */
    private interface Use {
        Object on(NoiseMill mill) throws Exception;
    }

    private static void quote(int promise, String sentence) {
        document.says("Promise " + promise, sentence);
    }

    /**
     * The call is refused on a mill of the scene, and every probe tells the same of it as of a mill on
     * which the call was not made.
     */
    private static void refused(Class<? extends Exception> due, Supplier<NoiseMill> scene, String what, Use use) {
        for (int probe = 0; probe < PROBES; probe++) {
            NoiseMill mill = scene.get();
            CHECKS.fails(what, due, () -> use.on(mill));
            CHECKS.equal("probe " + probe + " after " + what, probe(probe, mill), probe(probe, scene.get()));
        }
    }

    private static void taken(Supplier<NoiseMill> scene, String what, Use use) {
        NoiseMill mill = scene.get();
        CHECKS.holds(what + " is taken", !Mills.told(() -> use.on(mill)).endsWith("Exception"));
    }

    /** What can be seen of a mill, in parts: a probe may change the mill, and has to do with 400 calls. */
    private static String probe(int probe, NoiseMill mill) {
        switch (probe) {
            case 0: return Mills.state(mill) + Mills.wholeOutput(mill) + Mills.told(mill::errorPosition)
                + Mills.told(mill::failedCommand);
            case 1: return undoAll(mill);
            case 2: return Mills.told(() -> mill.type(' ')) + Mills.told(() -> mill.type('4'))
                + Mills.told(mill::runScript) + Mills.told(mill::errorPosition) + mill.gear(0)
                + Mills.told(() -> mill.addNoise(1, 1, 1));
            default: return Mills.told(mill::restore) + Mills.state(mill) + Mills.told(mill::undo);
        }
    }

    private static String undoAll(NoiseMill mill) {
        StringBuilder text = new StringBuilder();
        String left = Mills.told(mill::undo);
        for (int count = 0; count < 9 && left.length() == 1; count++) {
            text.append(left).append(" time ").append(mill.time()).append(' ').append(Mills.order(mill))
                .append(Mills.told(mill::renderSacks)).append(Mills.wheel(mill, 0)).append(mill.gear(1));
            left = Mills.told(mill::undo);
        }
        return text.append(left).toString();
    }

    private static int[] outside(int least, int most) {
        return new int[] {least - 1, most + 1, least - 10, most + 10, 256 + least, 65536 + most, Integer.MIN_VALUE,
            Integer.MIN_VALUE + least, Integer.MAX_VALUE};
    }

    /** The least and the greatest value are taken, and all outside of them are refused. */
    private static void range(Class<? extends Exception> due, int least, int most, Supplier<NoiseMill> scene,
            IntFunction<Use> use) {
        taken(scene, "the least value, " + least, use.apply(least));
        taken(scene, "the greatest value, " + most, use.apply(most));
        for (int value : outside(least, most)) {
            refused(due, scene, "the value " + value, use.apply(value));
        }
    }

    private static void promise2AddNoise() {
        quote(2, "Throws `IllegalArgumentException` if there is no such band, loudness is not between 1 and 9, "
            + "or amount is not between 1 and 60");
        range(Mills.ARGUMENT, 0, 7, Mills::busy, band -> mill -> mill.addNoise(band, 5, 10));
        range(Mills.ARGUMENT, 1, 9, Mills::busy, loudness -> mill -> mill.addNoise(3, loudness, 10));
        range(Mills.ARGUMENT, 1, 60, Mills::busy, amount -> mill -> mill.addNoise(3, 5, amount));
        quote(2, "Throws `IllegalStateException` if 12 noises wait");
        refused(Mills.STATE, Mills::busyAndFull, "a 13th", mill -> mill.addNoise(0, 1, 1));
        taken(after(Mills::busyAndFull, mill -> mill.removeNoise(9)), "a 12th", mill -> mill.addNoise(0, 1, 1));
        refused(Mills.STATE, Mills::full, "a 13th of a new mill", mill -> mill.addNoise(7, 9, 60));
        document.says("Terms", "If several exceptions apply, the one that is listed first is thrown.");
        refused(Mills.ARGUMENT, Mills::busyAndFull, "a 13th of band 8", mill -> mill.addNoise(8, 1, 1));
        refused(Mills.ARGUMENT, Mills::busyAndFull, "a 13th of loudness 10", mill -> mill.addNoise(0, 10, 1));
        refused(Mills.ARGUMENT, Mills::busyAndFull, "a 13th of amount 0", mill -> mill.addNoise(0, 1, 0));
    }

    /** The scene after one more call. */
    private static Supplier<NoiseMill> after(Supplier<NoiseMill> scene, Use use) {
        return () -> {
            NoiseMill mill = scene.get();
            Mills.told(() -> use.on(mill));
            return mill;
        };
    }

    /** Never given, done, removed, or out of every range; and one that was given and undone. */
    private static void noSuchNoise(IntFunction<Use> use) {
        for (int noise : new int[] {-1, 0, 1, 2, 4, 8, 9, 99, Integer.MIN_VALUE, Integer.MAX_VALUE}) {
            refused(Mills.ELEMENT, Mills::busy, "noise " + noise, use.apply(noise));
        }
        refused(Mills.ELEMENT, NoiseMill::new, "noise 0 of a new mill", use.apply(0));
        Supplier<NoiseMill> undone = after(after(Mills::busy, mill -> mill.addNoise(0, 9, 1)), NoiseMill::undo);
        refused(Mills.ELEMENT, undone, "noise 9, undone", use.apply(9));
    }

    private static void promise3RemoveNoise() {
        quote(3, "Throws `NoSuchElementException` if there is no such noise");
        noSuchNoise(noise -> mill -> mill.removeNoise(noise));
        quote(3, "Throws `IllegalStateException` if the noise is on a wheel");
        refused(Mills.STATE, Mills::busy, "on a jammed wheel", mill -> mill.removeNoise(3));
        refused(Mills.STATE, Mills::busy, "on a wheel", mill -> mill.removeNoise(5));
        taken(Mills::busy, "one that waits", mill -> mill.removeNoise(6));
        taken(after(Mills::busy, mill -> mill.releaseNoise(2)), "one that waits again", mill -> mill.removeNoise(5));
    }

    private static void promise4SetGear() {
        quote(4, "Throws `IndexOutOfBoundsException` if there is no such wheel");
        range(Mills.INDEX, 0, 2, Mills::busy, wheel -> mill -> mill.setGear(wheel, 3));
        quote(4, "Throws `IllegalArgumentException` if gear is not between 1 and 5");
        range(Mills.ARGUMENT, 1, 5, Mills::busy, gear -> mill -> mill.setGear(1, gear));
        refused(Mills.INDEX, Mills::busy, "no wheel and no gear", mill -> mill.setGear(3, 6));
        refused(Mills.INDEX, Mills::busy, "no wheel and no gear", mill -> mill.setGear(-1, 0));
    }

    private static void promise5SetMesh() {
        quote(5, "Throws `IllegalArgumentException` if there is no such band, or mesh is not between 0 and 9");
        range(Mills.ARGUMENT, 0, 7, Mills::busy, band -> mill -> mill.setMesh(band, 6));
        range(Mills.ARGUMENT, 0, 9, Mills::busy, mesh -> mill -> mill.setMesh(6, mesh));
    }

    private static void promise6ClearWheel() {
        quote(6, "Throws `IndexOutOfBoundsException` if there is no such wheel");
        range(Mills.INDEX, 0, 2, Mills::busy, wheel -> mill -> mill.clearWheel(wheel));
    }

    private static void promise7ReleaseNoise() {
        quote(7, "Throws `IndexOutOfBoundsException` if there is no such wheel");
        range(Mills.INDEX, 0, 2, Mills::threeTurn, wheel -> mill -> mill.releaseNoise(wheel));
        quote(7, "Throws `NoSuchElementException` if the wheel holds no noise");
        refused(Mills.ELEMENT, Mills::busy, "its noise is done", mill -> mill.releaseNoise(1));
        refused(Mills.ELEMENT, NoiseMill::new, "it never held one", mill -> mill.releaseNoise(0));
        quote(7, "Throws `IllegalStateException` if 12 noises wait");
        refused(Mills.STATE, Mills::busyAndFull, "12 wait", mill -> mill.releaseNoise(0));
        refused(Mills.STATE, Mills::busyAndFull, "12 wait", mill -> mill.releaseNoise(2));
        Supplier<NoiseMill> eleven = after(Mills::busyAndFull, mill -> mill.removeNoise(6));
        taken(eleven, "11 wait", mill -> mill.releaseNoise(2));
        refused(Mills.ELEMENT, Mills::busyAndFull, "12 wait and no noise", mill -> mill.releaseNoise(1));
        refused(Mills.INDEX, Mills::busyAndFull, "12 wait and no wheel", mill -> mill.releaseNoise(3));
    }

    private static void promise8ShipSacks() {
        quote(8, "Throws `IllegalArgumentException` if there is no such grade, or sacks is not between 1 and 6");
        range(Mills.ARGUMENT, 0, 3, Mills::aSackOfEach, grade -> mill -> mill.shipSacks(grade, 1));
        range(Mills.ARGUMENT, 1, 6, Mills::brimful, sacks -> mill -> mill.shipSacks(0, sacks));
        quote(8, "Throws `UnsupportedOperationException` if there are fewer full sacks of this grade");
        taken(Mills::busy, "4 of 4", mill -> mill.shipSacks(0, 4));
        refused(Mills.UNSUPPORTED, Mills::busy, "5 of 4", mill -> mill.shipSacks(0, 5));
        refused(Mills.UNSUPPORTED, Mills::busy, "6 of 4", mill -> mill.shipSacks(0, 6));
        Supplier<NoiseMill> nineteen = after(Mills::busy, mill -> mill.shipSacks(0, 4));
        refused(Mills.UNSUPPORTED, nineteen, "a sack of 19 grains", mill -> mill.shipSacks(0, 1));
        refused(Mills.UNSUPPORTED, NoiseMill::new, "1 of 0", mill -> mill.shipSacks(3, 1));
        refused(Mills.ARGUMENT, Mills::busy, "7 of 4", mill -> mill.shipSacks(0, 7));
        refused(Mills.ARGUMENT, Mills::busy, "6 of no grade", mill -> mill.shipSacks(4, 6));
    }

    private static void promise9Advance() {
        quote(9, "Throws `IllegalArgumentException` if steps is not between 1 and 40");
        range(Mills.ARGUMENT, 1, 40, Mills::busy, steps -> mill -> mill.advance(steps));
    }

    private static void promises12And13Ranks() {
        quote(12, "Throws `NoSuchElementException` if there is no such rank");
        range(Mills.ELEMENT, 0, 1, Mills::busy, rank -> mill -> mill.waitingAt(rank));
        range(Mills.ELEMENT, 0, 11, Mills::busyAndFull, rank -> mill -> mill.waitingAt(rank));
        refused(Mills.ELEMENT, NoiseMill::new, "none waits", mill -> mill.waitingAt(0));
        quote(13, "Throws `NoSuchElementException` if there is no such noise");
        noSuchNoise(noise -> mill -> mill.rankOf(noise));
        quote(13, "Throws `IllegalStateException` if the noise is on a wheel");
        refused(Mills.STATE, Mills::busy, "on a jammed wheel", mill -> mill.rankOf(3));
        refused(Mills.STATE, Mills::busy, "on a wheel", mill -> mill.rankOf(5));
        taken(Mills::busy, "one that waits", mill -> mill.rankOf(6));
    }

    private static void promises15To18Noises() {
        quote(15, "Throws `NoSuchElementException` if there is no such noise");
        noSuchNoise(noise -> mill -> mill.band(noise));
        quote(16, "Throws `NoSuchElementException` if there is no such noise");
        noSuchNoise(noise -> mill -> mill.loudness(noise));
        quote(17, "Throws `NoSuchElementException` if there is no such noise");
        noSuchNoise(noise -> mill -> mill.amount(noise));
        quote(18, "Throws `NoSuchElementException` if there is no such noise");
        noSuchNoise(noise -> mill -> mill.isWaiting(noise));
        for (int noise : new int[] {3, 5, 6, 7}) {
            taken(Mills::busy, "band", mill -> mill.band(noise));
            taken(Mills::busy, "loudness", mill -> mill.loudness(noise));
            taken(Mills::busy, "amount", mill -> mill.amount(noise));
            taken(Mills::busy, "isWaiting", mill -> mill.isWaiting(noise));
        }
    }

    private static void promises19And20Places() {
        quote(19, "Throws `NoSuchElementException` if there is no such noise, or it waits");
        noSuchNoise(noise -> mill -> mill.wheelOf(noise));
        refused(Mills.ELEMENT, Mills::busy, "it waits", mill -> mill.wheelOf(6));
        refused(Mills.ELEMENT, Mills::busy, "it waits", mill -> mill.wheelOf(7));
        Supplier<NoiseMill> released = after(Mills::busy, mill -> mill.releaseNoise(0));
        refused(Mills.ELEMENT, released, "it waits again", mill -> mill.wheelOf(3));
        taken(Mills::busy, "it is on a wheel", mill -> mill.wheelOf(3));
        quote(20, "Throws `IndexOutOfBoundsException` if there is no such wheel");
        range(Mills.INDEX, 0, 2, Mills::threeTurn, wheel -> mill -> mill.noiseOn(wheel));
        quote(20, "Throws `NoSuchElementException` if it holds none");
        refused(Mills.ELEMENT, Mills::busy, "its noise is done", mill -> mill.noiseOn(1));
        refused(Mills.ELEMENT, released, "its noise waits again", mill -> mill.noiseOn(0));
        refused(Mills.ELEMENT, NoiseMill::new, "it never held one", mill -> mill.noiseOn(2));
    }

    private static void promises21To23Wheels() {
        quote(21, "Throws `IndexOutOfBoundsException` if there is no such wheel");
        range(Mills.INDEX, 0, 2, Mills::busy, wheel -> mill -> mill.gear(wheel));
        quote(22, "Throws `IndexOutOfBoundsException` if there is no such wheel");
        range(Mills.INDEX, 0, 2, Mills::busy, wheel -> mill -> mill.wear(wheel));
        quote(23, "Throws `IndexOutOfBoundsException` if there is no such wheel");
        range(Mills.INDEX, 0, 2, Mills::busy, wheel -> mill -> mill.isJammed(wheel));
    }

    private static void promises24And25Bands() {
        quote(24, "Throws `IllegalArgumentException` if there is no such band");
        range(Mills.ARGUMENT, 0, 7, Mills::busy, band -> mill -> mill.mesh(band));
        quote(25, "Throws `IllegalArgumentException` if there is no such band");
        range(Mills.ARGUMENT, 0, 7, Mills::busy, band -> mill -> mill.isBandGround(band));
    }

    private static void promises27To31Grades() {
        String sentence = "Throws `IllegalArgumentException` if there is no such grade";
        quote(27, sentence);
        range(Mills.ARGUMENT, 0, 3, Mills::busy, grade -> mill -> mill.flour(grade));
        quote(28, sentence);
        range(Mills.ARGUMENT, 0, 3, Mills::busy, grade -> mill -> mill.flourByRecords(grade));
        quote(29, sentence);
        range(Mills.ARGUMENT, 0, 3, Mills::busy, grade -> mill -> mill.fullSacks(grade));
        quote(30, sentence);
        range(Mills.ARGUMENT, 0, 3, Mills::busy, grade -> mill -> mill.openSack(grade));
        quote(31, sentence);
        range(Mills.ARGUMENT, 0, 3, Mills::busy, grade -> mill -> mill.shippedSacks(grade));
    }

    private static void promise32Recorded() {
        quote(32, "Throws `IllegalArgumentException` if there is no such band or grade");
        range(Mills.ARGUMENT, 0, 7, Mills::busy, band -> mill -> mill.recorded(band, 0));
        range(Mills.ARGUMENT, 0, 3, Mills::busy, grade -> mill -> mill.recorded(0, grade));
        // A wrong grade must not be taken for one of the next or the previous band.
        refused(Mills.ARGUMENT, Mills::busy, "band 1, grade -1", mill -> mill.recorded(1, -1));
        refused(Mills.ARGUMENT, Mills::busy, "band -1, grade 5", mill -> mill.recorded(-1, 5));
        refused(Mills.ARGUMENT, Mills::busy, "band 8, grade -1", mill -> mill.recorded(8, -1));
    }

    private static void stepsUntilDone(int promise, Function<Integer, Use> use) {
        quote(promise, "Throws `IndexOutOfBoundsException` if there is no such wheel");
        range(Mills.INDEX, 0, 2, Mills::threeTurn, use::apply);
        quote(promise, "Throws `NoSuchElementException` if the wheel holds no noise, or is jammed before the step in "
            + "which the noise is done");
        refused(Mills.ELEMENT, Mills::busy, "no noise", use.apply(1));
        refused(Mills.ELEMENT, NoiseMill::new, "never a noise", use.apply(0));
        refused(Mills.ELEMENT, Mills::busy, "jammed now", use.apply(0));
        refused(Mills.ELEMENT, Mills::busy, "54 grains at 2 until the wear of 3 is 12", use.apply(2));
        taken(() -> worn(23, 1, 1), "the jam comes with the step in which it is done", use.apply(0));
        refused(Mills.ELEMENT, () -> worn(25, 1, 1), "one grain too many, gear 1", use.apply(0));
        taken(() -> worn(32, 1, 5), "30 grains at 10, wear 1, 6 and 11 before the steps", use.apply(0));
        refused(Mills.ELEMENT, () -> worn(33, 1, 5), "31 grains at 10, wear 1", use.apply(0));
        taken(() -> worn(24, 2, 5), "20 grains at 10, wear 2 and 7 before the steps", use.apply(0));
        refused(Mills.ELEMENT, () -> worn(25, 2, 5), "21 grains at 10, wear 2", use.apply(0));
    }

    /** A mill whose wheel 0 has ground a noise of some grains for some steps at gear 1; then a gear is set. */
    private static NoiseMill worn(int grains, int steps, int gear) {
        NoiseMill mill = new NoiseMill();
        mill.addNoise(2, 5, grains);
        mill.advance(steps);
        mill.setGear(0, gear);
        return mill;
    }

    private static void promises37And38StepsUntilDone() {
        stepsUntilDone(37, wheel -> mill -> mill.stepsUntilDone(wheel));
        stepsUntilDone(38, wheel -> mill -> mill.stepsUntilDoneByRate(wheel));
    }

    private static void promise39StepsUntilJam() {
        quote(39, "Throws `IndexOutOfBoundsException` if there is no such wheel");
        range(Mills.INDEX, 0, 2, Mills::threeTurn, wheel -> mill -> mill.stepsUntilJam(wheel));
        quote(39, "Throws `NoSuchElementException` if it is not jammed within 60 steps");
        refused(Mills.ELEMENT, NoiseMill::new, "nothing to grind", mill -> mill.stepsUntilJam(0));
        refused(Mills.ELEMENT, () -> worn(22, 1, 1), "done at wear 11", mill -> mill.stepsUntilJam(0));
        taken(() -> worn(23, 1, 1), "done at wear 12", mill -> mill.stepsUntilJam(0));
        refused(Mills.ELEMENT, () -> worn(60, 1, 1), "another wheel has the noise", mill -> mill.stepsUntilJam(1));
    }

    private static void promise40GroundWithin() {
        quote(40, "Throws `IllegalArgumentException` if steps is not between 0 and 60");
        range(Mills.ARGUMENT, 0, 60, Mills::busy, steps -> mill -> mill.groundWithin(steps));
    }

    private static void logEntry(int promise, IntFunction<Use> use) {
        quote(promise, "Throws `NoSuchElementException` if there is no such noise in the log");
        refused(Mills.ELEMENT, NoiseMill::new, "none is done", use.apply(0));
        range(Mills.ELEMENT, 0, 3, Mills::busy, use);
        range(Mills.ELEMENT, 0, 7, () -> Mills.manyDone(8), use);
        range(Mills.ELEMENT, 0, 7, () -> Mills.manyDone(9), use);
        range(Mills.ELEMENT, 0, 7, () -> Mills.manyDone(17), use);
        Supplier<NoiseMill> undone = after(() -> Mills.manyDone(5), NoiseMill::undo);
        range(Mills.ELEMENT, 0, 2, undone, use);
    }

    private static void promises42To44Log() {
        logEntry(42, recency -> mill -> mill.doneNumber(recency));
        logEntry(43, recency -> mill -> mill.doneWheel(recency));
        logEntry(44, recency -> mill -> mill.doneTime(recency));
    }

    private static void promises45And46Rankings() {
        quote(45, "Throws `NoSuchElementException` if there is no such rank");
        range(Mills.ELEMENT, 0, 2, Mills::busy, rank -> mill -> mill.wheelByWear(rank));
        quote(46, "Throws `NoSuchElementException` if there is no such rank");
        range(Mills.ELEMENT, 0, 7, Mills::busy, rank -> mill -> mill.bandByGrains(rank));
    }

    private static void promises47And48Shares() {
        quote(47, "Throws `ArithmeticException` if no noise waits");
        refused(Mills.ARITHMETIC, NoiseMill::new, "no noise", NoiseMill::meanLoudness);
        refused(Mills.ARITHMETIC, Mills::threeTurn, "all are on wheels", NoiseMill::meanLoudness);
        refused(Mills.ARITHMETIC, () -> Mills.manyDone(3), "all are done", NoiseMill::meanLoudness);
        taken(after(Mills::threeTurn, mill -> mill.releaseNoise(1)), "one waits again", NoiseMill::meanLoudness);
        quote(48, "Throws `ArithmeticException` if nothing was ground");
        refused(Mills.ARITHMETIC, NoiseMill::new, "no noise", NoiseMill::lostShare);
        refused(Mills.ARITHMETIC, Mills::full, "all wait", NoiseMill::lostShare);
        Supplier<NoiseMill> undone = after(() -> Mills.manyDone(1), NoiseMill::undo);
        refused(Mills.ARITHMETIC, undone, "what was ground is undone", NoiseMill::lostShare);
        taken(() -> Mills.manyDone(1), "one grain was ground", NoiseMill::lostShare);
    }

    private static void promises50And52Output() {
        quote(50, "Throws `IndexOutOfBoundsException` if there is no such wheel");
        range(Mills.INDEX, 0, 2, Mills::busy, wheel -> mill -> mill.renderWheel(wheel));
        quote(52, "Throws `IndexOutOfBoundsException` if there is no such index");
        range(Mills.INDEX, 0, 11, Mills::busy, index -> mill -> mill.outputAt(index));
        range(Mills.INDEX, 0, 16, after(Mills::busy, NoiseMill::renderSacks), index -> mill -> mill.outputAt(index));
        refused(Mills.INDEX, NoiseMill::new, "no text", mill -> mill.outputAt(0));
    }

    private static void promise53Type() {
        quote(53, "Throws `IllegalArgumentException` if the character code is not between 32 and 126");
        taken(Mills::busy, "32", mill -> mill.type((char) 32));
        taken(Mills::busy, "126", mill -> mill.type((char) 126));
        for (int code : new int[] {0, 9, 10, 31, 127, 128, 160, 255, 256 + 32, 32767, 32768, 65535}) {
            refused(Mills.ARGUMENT, Mills::busy, "character " + code, mill -> mill.type((char) code));
        }
        quote(53, "Throws `IllegalStateException` if the script buffer has 60 characters");
        Supplier<NoiseMill> fiftyNine = () -> typed("step;step;step;step;step;step;step;step;step;step;step;gear");
        taken(fiftyNine, "the 60th", mill -> mill.type(' '));
        Supplier<NoiseMill> sixty = after(fiftyNine, mill -> mill.type(' '));
        refused(Mills.STATE, sixty, "the 61st", mill -> mill.type('4'));
        refused(Mills.ARGUMENT, sixty, "the 61st, of code 31", mill -> mill.type((char) 31));
        refused(Mills.ARGUMENT, sixty, "the 61st, of code 127", mill -> mill.type((char) 127));
    }

    private static NoiseMill typed(String script) {
        NoiseMill mill = Mills.manyDone(1);
        Mills.type(mill, script);
        return mill;
    }

    /** A refused script empties the buffer, and one of the two marks tells why; all else stays. */
    private static void scriptRefused(Class<? extends Exception> due, String script, String marks) {
        for (int probe : new int[] {0, 1, 3}) {
            NoiseMill mill = Mills.busy();
            Mills.told(mill::runScript);
            Mills.type(mill, script);
            CHECKS.fails(script, due, mill::runScript);
            String known = Mills.told(mill::errorPosition) + " " + Mills.told(mill::failedCommand);
            CHECKS.equal("errorPosition and failedCommand after " + script, known, marks);
            NoiseMill other = Mills.busy();
            CHECKS.equal("probe " + probe + " after " + script, withoutMarks(probe, mill), withoutMarks(probe, other));
            CHECKS.equal("the buffer is empty after " + script, mill.type('s'), 1);
        }
    }

    private static String withoutMarks(int probe, NoiseMill mill) {
        return probe == 0 ? Mills.state(mill) + Mills.wholeOutput(mill) : probe(probe, mill);
    }

    private static void promise54RunScript() {
        quote(54, "Throws `IllegalArgumentException` if the script does not have the required form; errorPosition then "
            + "returns its error position");
        scriptRefused(Mills.ARGUMENT, "", "0 1");
        scriptRefused(Mills.ARGUMENT, "step;noise 1 1 1;clear", "22 1");
        scriptRefused(Mills.ARGUMENT, "mesh 1 1;gear 1 5;release 0;", "28 1");
        quote(54, "Throws `IllegalStateException` if the method for a command throws an exception; no command takes "
            + "effect, and failedCommand then returns the index of that command");
        scriptRefused(Mills.STATE, "noise 8 1 1", "6 0");
        scriptRefused(Mills.STATE, "noise 7 0 60", "6 0");
        scriptRefused(Mills.STATE, "noise 7 9 60;noise 7 9 61", "6 1");
        scriptRefused(Mills.STATE, "noise 7 9 1;noise 7 9 00", "6 1");
        scriptRefused(Mills.STATE, "noise 7 9 60;drop 9;drop 9", "6 2");
        scriptRefused(Mills.STATE, "drop 3", "6 0");
        scriptRefused(Mills.STATE, "release 2;gear 0 1;mesh 3 3;gear 3 1", "6 3");
        scriptRefused(Mills.STATE, "step 40;gear 1 0", "6 1");
        scriptRefused(Mills.STATE, "mesh 7 9;mesh 8 9", "6 1");
        scriptRefused(Mills.STATE, "clear 0;clear 1;clear 2;clear 3", "6 3");
        scriptRefused(Mills.STATE, "release 0;release 2;release 1", "6 2");
        scriptRefused(Mills.STATE, "release 3", "6 0");
        scriptRefused(Mills.STATE, "ship 0 4;ship 0 1", "6 1");
        scriptRefused(Mills.STATE, "ship 0 0", "6 0");
        scriptRefused(Mills.STATE, "ship 4 1", "6 0");
        scriptRefused(Mills.STATE, "step 40;step 00", "6 1");
        scriptRefused(Mills.STATE, "step 41", "6 0");
        // Both apply to these: the form is listed first, and no command is tried then.
        scriptRefused(Mills.ARGUMENT, "drop 99;x", "8 1");
        scriptRefused(Mills.ARGUMENT, "step 0;step 0;step 0;", "21 1");
    }

    private static void promises55And56LatestScripts() {
        quote(55, "Throws `NoSuchElementException` if there was no such script");
        refused(Mills.ELEMENT, NoiseMill::new, "no script", NoiseMill::errorPosition);
        refused(Mills.ELEMENT, () -> ran("step"), "a script that ran", NoiseMill::errorPosition);
        refused(Mills.ELEMENT, () -> ran("drop 9"), "one that failed", NoiseMill::errorPosition);
        refused(Mills.ELEMENT, () -> typed("drop x"), "one that was not run", NoiseMill::errorPosition);
        taken(() -> ran(""), "an empty script", NoiseMill::errorPosition);
        quote(56, "Throws `NoSuchElementException` if there was no such script");
        refused(Mills.ELEMENT, NoiseMill::new, "no script", NoiseMill::failedCommand);
        refused(Mills.ELEMENT, () -> ran("step"), "a script that ran", NoiseMill::failedCommand);
        refused(Mills.ELEMENT, () -> ran("step 0;"), "one without the form", NoiseMill::failedCommand);
        refused(Mills.ELEMENT, () -> typed("step 0"), "one that was not run", NoiseMill::failedCommand);
        taken(() -> ran("drop 9"), "one that failed at once", NoiseMill::failedCommand);
    }

    private static NoiseMill ran(String script) {
        NoiseMill mill = new NoiseMill();
        Mills.script(mill, script);
        return mill;
    }

    private static void promises57And59UndoAndRestore() {
        quote(57, "Throws `IllegalStateException` if there is nothing to undo");
        refused(Mills.STATE, NoiseMill::new, "no change", NoiseMill::undo);
        refused(Mills.STATE, () -> ran("step 0"), "a failed script", NoiseMill::undo);
        refused(Mills.STATE, after(() -> ran("step"), NoiseMill::undo), "one change, undone", NoiseMill::undo);
        refused(Mills.STATE, after(Mills::busy, NoiseMill::restore), "restored", NoiseMill::undo);
        refused(Mills.STATE, () -> undone(Mills.busy(), 8), "8 of the changes are undone", NoiseMill::undo);
        taken(() -> undone(Mills.busy(), 7), "the 8th", NoiseMill::undo);
        quote(59, "Throws `IllegalStateException` if there is no snapshot");
        refused(Mills.STATE, NoiseMill::new, "no snapshot", NoiseMill::restore);
        refused(Mills.STATE, Mills::brimful, "no snapshot, 8 changes to undo", NoiseMill::restore);
        taken(after(NoiseMill::new, NoiseMill::save), "a snapshot of a new mill", NoiseMill::restore);
    }

    private static NoiseMill undone(NoiseMill mill, int count) {
        for (int left = count; left > 0; left--) {
            mill.undo();
        }
        return mill;
    }
}
