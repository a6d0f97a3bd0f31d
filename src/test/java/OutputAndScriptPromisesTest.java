import java.util.function.Supplier;
import java.util.regex.Matcher;
import java.util.regex.Pattern;

/** Promises 50 to 56: the output text and scripts. */
public final class OutputAndScriptPromisesTest {
    private static final Checks CHECKS = new Checks();
    private static final String COMMAND = "(noise [0-9] [0-9] [0-9][0-9]?|drop [0-9][0-9]?|gear [0-9] [0-9]"
        + "|mesh [0-9] [0-9]|clear [0-9]|release [0-9]|ship [0-9] [0-9]|step( [0-9][0-9]?)?)";
    private static final Pattern SCRIPT = Pattern.compile(COMMAND + "(;" + COMMAND + ")*");

    private OutputAndScriptPromisesTest() {
    }

    public static void main(String[] args) {
        promise50RenderWheel();
        promise51RenderSacks();
        promise52OutputAt();
        promise53Type();
        promise54RunScript();
        promise54EachCommand();
        promises54And56FailedCommands();
        promise54ReadsNoFurtherThanTyped();
        promise54IsOneChange();
        promise55ErrorPositions();
        promise55EveryWrongSign();
        promises55And56StayKnown();
        CHECKS.end();
    }

    private static void promise50RenderWheel() {
        NoiseMill mill = new NoiseMill();
        CHECKS.equal("length", mill.renderWheel(2), 7);
        CHECKS.equal("wheel", Mills.wheel(mill, 2), "2g1w0:-");
        mill.setGear(0, 3);
        mill.addNoise(0, 1, 30);
        mill.advance(2);
        CHECKS.equal("length", mill.renderWheel(0), 10);
        CHECKS.equal("wheel", Mills.wheel(mill, 0), "0g3w6:0x18");
        mill.advance(2);
        CHECKS.equal("wheel", Mills.wheel(mill, 0), "0g3w12!:0x6");
        mill.releaseNoise(0);
        CHECKS.equal("wheel", Mills.wheel(mill, 0), "0g3w12!:-");
        for (int wheel : new int[] {-1, 3, Integer.MIN_VALUE, Integer.MAX_VALUE}) {
            CHECKS.fails("wheel " + wheel, Mills.INDEX, () -> mill.renderWheel(wheel));
        }
        CHECKS.equal("the text stays", Mills.output(mill, 9), "0g3w12!:-");
    }

    private static void promise51RenderSacks() {
        NoiseMill mill = Mills.brimful();
        CHECKS.equal("length", mill.renderSacks(), 16);
        CHECKS.equal("sacks", Mills.sacks(mill), "6+19 0+0 0+0 0+0");
        mill.shipSacks(0, 4);
        mill.setMesh(3, 9);
        mill.addNoise(3, 1, 60);
        mill.setGear(0, 4);
        mill.advance(3);
        CHECKS.equal("sacks", Mills.sacks(mill), "2+19 0+0 0+0 0+3");
        CHECKS.equal("rendering is no change", mill.undo(), 7);
    }

    private static void promise52OutputAt() {
        NoiseMill mill = new NoiseMill();
        CHECKS.fails("empty initially", Mills.INDEX, () -> mill.outputAt(0));
        mill.renderSacks();
        CHECKS.equal("outputAt", mill.outputAt(0), '0');
        CHECKS.equal("outputAt", mill.outputAt(1), '+');
        CHECKS.equal("outputAt", mill.outputAt(3), ' ');
        CHECKS.equal("outputAt", mill.outputAt(14), '0');
        CHECKS.fails("index 15 of 15", Mills.INDEX, () -> mill.outputAt(15));
        mill.renderWheel(1);
        CHECKS.equal("replaced", Mills.output(mill, 7), "1g1w0:-");
        CHECKS.fails("index 7 of 7", Mills.INDEX, () -> mill.outputAt(7));
        CHECKS.fails("index -1", Mills.INDEX, () -> mill.outputAt(-1));
        for (int far : Mills.FAR_INTS) {
            CHECKS.fails("index " + far, Mills.INDEX, () -> mill.outputAt(far));
        }
        mill.addNoise(0, 1, 1);
        mill.advance(1);
        mill.undo();
        CHECKS.equal("a text that was made stays", Mills.output(mill, 7), "1g1w0:-");
    }

    private static void promise53Type() {
        NoiseMill mill = new NoiseMill();
        CHECKS.equal("type", mill.type(' '), 1);
        CHECKS.equal("type", mill.type('~'), 2);
        for (char wrong : new char[] {0, 31, 127, 128, 255, 65535}) {
            CHECKS.fails("code " + (int) wrong, Mills.ARGUMENT, () -> mill.type(wrong));
        }
        for (int count = 3; count <= 60; count++) {
            CHECKS.equal("type", mill.type('x'), count);
        }
        CHECKS.fails("a 61st character", Mills.STATE, () -> mill.type('x'));
        CHECKS.fails("the character first", Mills.ARGUMENT, () -> mill.type((char) 127));
        CHECKS.fails("typing is no change", Mills.STATE, mill::undo);
        CHECKS.fails("it is no script", Mills.ARGUMENT, mill::runScript);
        CHECKS.equal("the buffer is empty", mill.type('s'), 1);
    }

    private static void promise54RunScript() {
        NoiseMill mill = new NoiseMill();
        Mills.type(mill, "noise 3 5 12;gear 0 4;step 2;clear 0");
        CHECKS.equal("runScript", mill.runScript(), 4);
        CHECKS.equal("doneCount", mill.doneCount(), 1);
        CHECKS.equal("time", mill.time(), 2);
        CHECKS.equal("wheel", Mills.wheel(mill, 0), "0g4w0:-");
        CHECKS.equal("the buffer is empty", mill.type('s'), 1);
        Mills.type(mill, "tep;step;step;step;step;step;step;step;step;step;step;step");
        CHECKS.fails("full but for one sign", Mills.STATE, () -> {
            mill.type(';');
            return mill.type(';');
        });
        CHECKS.fails("a sign too many", Mills.ARGUMENT, mill::runScript);
        CHECKS.equal("errorPosition", mill.errorPosition(), 60);
        Mills.type(mill, "step;step;step;step;step;step;step;step;step;step;step;step");
        CHECKS.equal("twelve commands", mill.runScript(), 12);
        CHECKS.equal("time", mill.time(), 14);
        CHECKS.fails("an empty script", Mills.ARGUMENT, mill::runScript);
        CHECKS.equal("errorPosition", mill.errorPosition(), 0);
    }

    private static void run(NoiseMill mill, String script, int commands) {
        Mills.type(mill, script);
        CHECKS.equal(script, mill.runScript(), commands);
    }

    private static void promise54EachCommand() {
        NoiseMill mill = new NoiseMill();
        run(mill, "noise 7 9 60;noise 2 3 5;noise 4 4 07", 3);
        CHECKS.equal("order", Mills.order(mill), "0 2 1");
        CHECKS.equal("band", mill.band(0), 7);
        CHECKS.equal("loudness", mill.loudness(0), 9);
        CHECKS.equal("amount", mill.amount(0), 60);
        CHECKS.equal("amount", mill.amount(2), 7);
        run(mill, "drop 2;drop 01", 2);
        CHECKS.equal("order", Mills.order(mill), "0");
        run(mill, "gear 2 4;mesh 7 0", 2);
        CHECKS.equal("gear", mill.gear(2), 4);
        CHECKS.equal("mesh", mill.mesh(7), 0);
        run(mill, "gear 0 5;step", 2);
        CHECKS.equal("step is one step", mill.time(), 1);
        run(mill, "step 2;step 07", 2);
        CHECKS.equal("time", mill.time(), 10);
        CHECKS.equal("wear", mill.wear(0), 15);
        run(mill, "release 0;clear 0", 2);
        CHECKS.equal("isWaiting", mill.isWaiting(0), true);
        CHECKS.equal("wear", mill.wear(0), 0);
        run(mill, "ship 0 1", 1);
        CHECKS.equal("shippedSacks", mill.shippedSacks(0), 1);
        run(mill, "step 40", 1);
        CHECKS.equal("time", mill.time(), 50);
        for (int count = 0; count < 9; count++) {
            run(mill, "noise 1 1 1;drop " + (3 + count), 2);
        }
        run(mill, "noise 1 1 1;drop 12", 2);
        CHECKS.equal("numbers of two digits", mill.waitingCount(), 0);
    }

    /** Each script has a mill of its own, since an object is promised for 512 calls only. */
    private static void failing(Supplier<NoiseMill> scene, String script, int index) {
        NoiseMill mill = scene.get();
        String before = Mills.state(mill);
        Mills.type(mill, script);
        CHECKS.fails(script, Mills.STATE, mill::runScript);
        CHECKS.equal("failedCommand of " + script, mill.failedCommand(), index);
        CHECKS.equal("state after " + script, Mills.state(mill), before);
        CHECKS.equal("the buffer is empty", mill.type('x'), 1);
    }

    private static NoiseMill oneOnAWheel() {
        NoiseMill mill = new NoiseMill();
        mill.addNoise(3, 5, 60);
        mill.advance(1);
        return mill;
    }

    private static void promises54And56FailedCommands() {
        CHECKS.fails("no failed command", Mills.ELEMENT, () -> new NoiseMill().failedCommand());
        String[] failAtOnce = {"noise 8 1 1", "noise 1 1 00", "drop 0", "drop 99", "gear 3 1", "gear 0 0", "mesh 8 0",
            "release 3", "ship 4 1", "ship 0 0", "ship 0 7", "ship 0 1", "step 0"};
        for (String script : failAtOnce) {
            failing(OutputAndScriptPromisesTest::oneOnAWheel, script, 0);
        }
        String[] failLater = {"step;noise 1 0 1", "gear 0 5;gear 0 6", "mesh 0 9;mesh 9 9", "clear 0;clear 3",
            "release 0;release 0", "step 40;step 41", "step;step 3;noise 1 1 61", "noise 1 1 1;drop 1;drop 1",
            "step;step;step;step;step;step;step;step;step;step;step 0"};
        int[] indices = {1, 1, 1, 1, 1, 1, 2, 2, 10};
        for (int index = 0; index < failLater.length; index++) {
            failing(OutputAndScriptPromisesTest::oneOnAWheel, failLater[index], indices[index]);
        }
        failing(Mills::full, "drop 1;noise 1 1 1;noise 1 1 1", 2);
        failing(Mills::full, "step;noise 1 1 1;noise 1 1 1;noise 1 1 1;release 0", 4);
        NoiseMill mill = oneOnAWheel();
        Mills.script(mill, "step;drop 0");
        CHECKS.equal("failed scripts are no changes", mill.undo(), 1);
        NoiseMill full = Mills.full();
        Mills.script(full, "drop 1;noise 1 1 1;noise 1 1 1");
        CHECKS.equal("the oldest change that can be undone stays", undoAll(full), 8);
        CHECKS.equal("waitingCount", full.waitingCount(), 4);
    }

    private static int undoAll(NoiseMill mill) {
        int count = 0;
        for (int left = 1; left > 0; count++) {
            left = mill.undo();
        }
        return count;
    }

    private static void promise54ReadsNoFurtherThanTyped() {
        NoiseMill mill = new NoiseMill();
        run(mill, "step 12;mesh 1 1", 2);
        run(mill, "step 1", 1);
        CHECKS.equal("not 12 steps more", mill.time(), 13);
        wrongForm(mill, "step 1;", 7);
        wrongForm(mill, "step 1;mes", 10);
        run(mill, "step", 1);
        CHECKS.equal("time", mill.time(), 14);
        run(mill, "step;step;step;step;step;step;step;step;step 2;step 2;step 2", 11);
        CHECKS.equal("60 characters, a digit last", mill.time(), 28);
        wrongForm(mill, "step;step;step;step;step;step;step;step;step 2;noise 1 1 1;s", 60);
        wrongForm(mill, "step;step;step;step;step;step;step;step;step;step;step;step ", 60);
    }

    private static void promise54IsOneChange() {
        NoiseMill mill = new NoiseMill();
        mill.setGear(1, 2);
        run(mill, "noise 1 1 1;noise 2 2 2;step 3;noise 1 1 9", 4);
        CHECKS.equal("undo", mill.undo(), 1);
        CHECKS.equal("waitingCount", mill.waitingCount(), 0);
        CHECKS.equal("time", mill.time(), 0);
        CHECKS.equal("gear", mill.gear(1), 2);
        CHECKS.equal("the number is given anew", mill.addNoise(0, 1, 1), 0);
    }

    private static void wrongForm(NoiseMill mill, String script, int position) {
        Mills.type(mill, script);
        CHECKS.fails(script, Mills.ARGUMENT, mill::runScript);
        CHECKS.equal("errorPosition of " + script, mill.errorPosition(), position);
    }

    private static void promise55ErrorPositions() {
        NoiseMill mill = new NoiseMill();
        CHECKS.fails("no wrong script", Mills.ELEMENT, mill::errorPosition);
        wrongForm(mill, "", 0);
        wrongForm(mill, "x", 0);
        wrongForm(mill, " step", 0);
        wrongForm(mill, ";", 0);
        wrongForm(mill, "step;", 5);
        wrongForm(mill, "step;;", 5);
        wrongForm(mill, "step; step", 5);
        wrongForm(mill, "s", 1);
        wrongForm(mill, "sx", 1);
        wrongForm(mill, "shep", 2);
        wrongForm(mill, "step ", 5);
        wrongForm(mill, "step  1", 5);
        wrongForm(mill, "step 1 ", 6);
        wrongForm(mill, "step 123", 7);
        wrongForm(mill, "step1", 4);
        wrongForm(mill, "steps", 4);
        wrongForm(mill, "STEP", 0);
        wrongForm(mill, "step 1,", 6);
        wrongForm(mill, "noise", 5);
        wrongForm(mill, "noise 1 2", 9);
        wrongForm(mill, "noise 1 2 ", 10);
        wrongForm(mill, "noise 12 3 4", 7);
        wrongForm(mill, "noise 1 2 345", 12);
        wrongForm(mill, "noise 1 2 -3", 10);
        wrongForm(mill, "drop", 4);
        wrongForm(mill, "drop;", 4);
        wrongForm(mill, "drop 1a", 6);
        wrongForm(mill, "gear 0 12", 8);
        wrongForm(mill, "step 3;mesh 0 x", 14);
        wrongForm(mill, "clear 00", 7);
        wrongForm(mill, "release", 7);
        wrongForm(mill, "ship 1;", 6);
        wrongForm(mill, "noise 9 0 99;step 99;x", 21);
        CHECKS.equal("none of them did anything", Mills.state(mill), Mills.state(new NoiseMill()));
        CHECKS.fails("a script that is not run fails nowhere", Mills.ELEMENT, mill::failedCommand);
    }

    /** Every script of a list is spoilt at every place by every sign; a pattern tells what is due. */
    private static void promise55EveryWrongSign() {
        String[] scripts = {"noise 1 2 34;step", "drop 7;step 12", "gear 0 1;ship 2 3", "mesh 4 5;clear 6",
            "release 1;noise 8 9 0", "step;step 1;drop 10"};
        String signs = " ;0123456789acdeghilmnoprst:/x~A";
        NoiseMill mill = null;
        int calls = 512;
        for (String script : scripts) {
            for (int place = 0; place <= script.length(); place++) {
                for (int index = 0; index < signs.length(); index++) {
                    String spoilt = script.substring(0, place) + signs.charAt(index)
                        + (place < script.length() ? script.substring(place + 1) : "");
                    if (calls + spoilt.length() + 2 > 512) {
                        mill = new NoiseMill();
                        calls = 0;
                    }
                    calls += spoilt.length() + 2;
                    compareWithPattern(mill, spoilt);
                }
            }
        }
    }

    private static void compareWithPattern(NoiseMill mill, String script) {
        Mills.type(mill, script);
        if (SCRIPT.matcher(script).matches()) {
            try {
                mill.runScript();
            } catch (IllegalStateException e) {
                return;
            }
            return;
        }
        CHECKS.fails(script, Mills.ARGUMENT, mill::runScript);
        int position = 0;
        while (position < script.length() && canContinue(script.substring(0, position + 1))) {
            position++;
        }
        CHECKS.equal("errorPosition of " + script, mill.errorPosition(), position);
    }

    private static boolean canContinue(String start) {
        Matcher matcher = SCRIPT.matcher(start);
        return matcher.matches() || matcher.hitEnd();
    }

    private static void promises55And56StayKnown() {
        NoiseMill mill = new NoiseMill();
        mill.save();
        Mills.type(mill, "step 1x");
        CHECKS.fails("wrong form", Mills.ARGUMENT, mill::runScript);
        Mills.type(mill, "step;step;drop 5");
        CHECKS.fails("failed", Mills.STATE, mill::runScript);
        run(mill, "step", 1);
        CHECKS.equal("errorPosition", mill.errorPosition(), 6);
        CHECKS.equal("failedCommand", mill.failedCommand(), 2);
        mill.undo();
        mill.restore();
        CHECKS.equal("errorPosition", mill.errorPosition(), 6);
        CHECKS.equal("failedCommand", mill.failedCommand(), 2);
        Mills.type(mill, "drop 5");
        CHECKS.fails("failed", Mills.STATE, mill::runScript);
        CHECKS.equal("the latest", mill.failedCommand(), 0);
        CHECKS.equal("as before", mill.errorPosition(), 6);
        Mills.type(mill, "q");
        CHECKS.fails("wrong form", Mills.ARGUMENT, mill::runScript);
        CHECKS.equal("the latest", mill.errorPosition(), 0);
    }
}
