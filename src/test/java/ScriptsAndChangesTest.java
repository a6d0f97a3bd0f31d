import java.io.IOException;
import java.util.function.Consumer;

/** The sentences on scripts, changes, undo and the snapshot that name an edge, each with a test of its own. */
public final class ScriptsAndChangesTest {
    private static final Checks CHECKS = new Checks();
    /** Twelve commands and the signs between them: 59 characters. */
    private static final String TWELVE = "step;step;step;step;step;step;step;step;step;step;step;step";

    private ScriptsAndChangesTest() {
    }

    public static void main(String[] args) throws IOException {
        Document document = new Document(CHECKS);
        document.says("Terms", "A script is typed into a buffer of at most 60 characters and then run.");
        bufferOf60();
        document.says("Terms", "`script = command { \";\" command`}");
        oneCommandOrMore();
        document.says("Terms",
            "`command = \"noise \" digit \" \" digit \" \" number | \"drop \" number | \"gear \" digit \" \" "
            + "digit | \"mesh \" digit \" \" digit | \"clear \" digit | \"release \" digit | "
            + "\"ship \" digit \" \" digit | \"step\" [ \" \" number ]`");
        formsOfCommands();
        document.says("Terms", "`number = digit [ digit ]`");
        numbersOfOneOrTwoDigits();
        document.says("Terms", "The commands call addNoise, removeNoise, setGear, setMesh, clearWheel, releaseNoise, "
            + "shipSacks and advance with the numbers as arguments in the same order; step without a number advances by 1 "
            + "step.");
        commandsCallMethods();
        document.says("Terms", "Commands are executed in order, and either all of them take effect or none.");
        inOrderAllOrNone();
        document.says("Terms", "The error position of a script that does not have this form is the index of the first "
            + "character that cannot continue any script of this form, or the length of the script if every character can "
            + "and the script ends too early.");
        firstWrongCharacter();
        endsTooEarly();
        document.says("Terms",
            "A change is a call of addNoise, removeNoise, setGear, setMesh, clearWheel, releaseNoise, "
            + "shipSacks, advance or runScript that returns normally, even if the state is the same afterwards.");
        changesThatChangeNothing();
        eachChangeCounts();
        othersAreNoChanges();
        document.says("Terms", "The latest 8 changes can be undone, the latest one first.");
        latestEight();
        document.says("Terms",
            "Undo and the snapshot cover everything except the script buffer, the error position, the "
            + "index of the failed command, the output text and the snapshot itself; so a number that was given in a "
            + "change that is undone is given anew.");
        undoCoversTheState();
        undoCoversTheLog();
        undoLeavesTexts();
        restoreLeavesTexts();
        undoLeavesTheSnapshot();
        numbersAreGivenAnew();
        document.says("Promise 54", "The buffer is empty afterwards, also if an exception is thrown.");
        bufferIsEmptyAfterwards();
        document.says("Promise 54", "Returns the number of commands.");
        numberOfCommands();
        document.says("Promise 55",
            "Returns the error position of the latest script that did not have the required form.");
        latestErrorPosition();
        document.says("Promise 56", "Returns the index of the command that failed in the latest script with a failed "
            + "command.");
        latestFailedCommand();
        document.says("Promise 57", "Undoes the latest change that has not been undone.");
        notUndoneTwice();
        document.says("Promise 57", "Returns the number of changes that can still be undone.");
        numberOfChangesLeft();
        document.says("Promise 58", "Takes a snapshot, which replaces an earlier one.");
        snapshotReplaces();
        document.says("Promise 59", "Restores the snapshot, which is kept. Afterwards there is nothing to undo.");
        snapshotIsKept();
        nothingToUndoAfterwards();
        document.says("Promise 58", "Returns the number of waiting noises.");
        document.says("Promise 59", "Returns the number of waiting noises after the call.");
        waitingWhenSavedAndRestored();
        CHECKS.end();
    }

    private static void runs(NoiseMill mill, String script, String due) {
        CHECKS.equal(script, Mills.script(mill, script), due);
    }

    private static void bufferOf60() {
        NoiseMill mill = new NoiseMill();
        String sixty = "gear 0 1;step;step;step;step;step;step;step;step;step;step 2";
        CHECKS.equal("length", sixty.length(), 60);
        for (int index = 0; index < 60; index++) {
            CHECKS.equal("type", mill.type(sixty.charAt(index)), index + 1);
        }
        CHECKS.fails("the 61st", Mills.STATE, () -> mill.type('2'));
        CHECKS.equal("commands", mill.runScript(), 11);
        CHECKS.equal("all 60 were read, and no 61st", mill.time(), 11);
        CHECKS.equal("there is room again", mill.type('s'), 1);
    }

    private static void oneCommandOrMore() {
        runs(new NoiseMill(), "step", "1");
        runs(new NoiseMill(), "step;step", "2");
        runs(new NoiseMill(), TWELVE, "12");
        runs(new NoiseMill(), "", "no form at 0");
        runs(new NoiseMill(), ";", "no form at 0");
        runs(new NoiseMill(), ";step", "no form at 0");
        runs(new NoiseMill(), "step;", "no form at 5");
        runs(new NoiseMill(), "step;;step", "no form at 5");
        runs(new NoiseMill(), "step step", "no form at 5");
        runs(new NoiseMill(), "step ;step", "no form at 5");
        runs(new NoiseMill(), "step, step", "no form at 4");
    }

    /** Every command, with the least and the greatest digits, and with one sign too few or too many. */
    private static void formsOfCommands() {
        String[] forms = {"noise 0 9 0", "noise 9 0 99", "drop 0", "drop 99", "gear 0 9", "gear 9 0", "mesh 0 9",
            "mesh 9 0", "clear 0", "clear 9", "release 0", "release 9", "ship 0 9", "ship 9 0", "step 0", "step 99"};
        for (String form : forms) {
            CHECKS.holds(form + " has the form", !Mills.script(new NoiseMill(), form).startsWith("no form"));
            int space = form.indexOf(' ');
            runs(new NoiseMill(), form.substring(0, space) + form.substring(space + 1), "no form at " + space);
            runs(new NoiseMill(), form.replace(" ", "  "), "no form at " + (space + 1));
            runs(new NoiseMill(), form + " ", "no form at " + form.length());
            runs(new NoiseMill(), " " + form, "no form at 0");
            runs(new NoiseMill(), form.toUpperCase(java.util.Locale.ROOT), "no form at 0");
        }
        for (String form : new String[] {"noise 1 1", "noise 1", "noise", "drop", "gear 1", "gear", "mesh 1", "clear",
            "release", "ship 1", "ship"}) {
            runs(new NoiseMill(), form, "no form at " + form.length());
            runs(new NoiseMill(), form + ";step", "no form at " + form.length());
        }
    }

    private static void numbersOfOneOrTwoDigits() {
        runs(new NoiseMill(), "noise 1 1 1", "1");
        runs(new NoiseMill(), "noise 1 1 01", "1");
        runs(new NoiseMill(), "noise 1 1 60", "1");
        runs(new NoiseMill(), "noise 1 1 001", "no form at 12");
        runs(new NoiseMill(), "drop 001", "no form at 7");
        runs(new NoiseMill(), "step 100", "no form at 7");
        runs(new NoiseMill(), "step -1", "no form at 5");
        runs(new NoiseMill(), "step +1", "no form at 5");
        runs(new NoiseMill(), "step 1 0", "no form at 6");
        runs(new NoiseMill(), "noise 01 1 1", "no form at 7");
        runs(new NoiseMill(), "noise 1 01 1", "no form at 9");
        runs(new NoiseMill(), "gear 00 1", "no form at 6");
        runs(new NoiseMill(), "gear 0 01", "no form at 8");
        runs(new NoiseMill(), "mesh 0 10", "no form at 8");
        runs(new NoiseMill(), "clear 10", "no form at 7");
        runs(new NoiseMill(), "release 10", "no form at 9");
        runs(new NoiseMill(), "ship 0 10", "no form at 8");
        runs(new NoiseMill(), "step /", "no form at 5");
        runs(new NoiseMill(), "step :", "no form at 5");
        runs(new NoiseMill(), "step 1/", "no form at 6");
        runs(new NoiseMill(), "step 1:", "no form at 6");
        NoiseMill mill = new NoiseMill();
        runs(mill, "step 9;step 10;step 09", "3");
        CHECKS.equal("time", mill.time(), 28);
    }

    /** The script does on one mill what the call does on another. */
    private static void same(String script, Consumer<NoiseMill> call) {
        NoiseMill mill = Mills.busy();
        Mills.told(mill::runScript);
        NoiseMill other = Mills.busy();
        String before = Mills.state(mill);
        runs(mill, script, "1");
        call.accept(other);
        String after = Mills.state(mill);
        CHECKS.equal("state after " + script, after, Mills.state(other));
        CHECKS.holds(script + " does something", !after.equals(before));
    }

    private static void commandsCallMethods() {
        same("noise 2 3 14", mill -> mill.addNoise(2, 3, 14));
        same("noise 3 2 4", mill -> mill.addNoise(3, 2, 4));
        same("drop 6", mill -> mill.removeNoise(6));
        same("drop 07", mill -> mill.removeNoise(7));
        same("gear 1 5", mill -> mill.setGear(1, 5));
        same("gear 2 4", mill -> mill.setGear(2, 4));
        same("mesh 7 2", mill -> mill.setMesh(7, 2));
        same("mesh 2 7", mill -> mill.setMesh(2, 7));
        same("clear 0", mill -> mill.clearWheel(0));
        same("clear 2", mill -> mill.clearWheel(2));
        same("release 0", mill -> mill.releaseNoise(0));
        same("release 2", mill -> mill.releaseNoise(2));
        same("ship 0 3", mill -> mill.shipSacks(0, 3));
        same("ship 1 1", mill -> mill.shipSacks(1, 1));
        same("step 3", mill -> mill.advance(3));
        same("step 40", mill -> mill.advance(40));
        same("step", mill -> mill.advance(1));
    }

    private static void inOrderAllOrNone() {
        NoiseMill mill = new NoiseMill();
        runs(mill, "gear 0 2;gear 0 5;mesh 1 9;mesh 1 0", "4");
        CHECKS.equal("the later ones count", mill.gear(0) + " " + mill.mesh(1), "5 0");
        runs(mill, "noise 1 1 30;step;drop 0", "failed at 2");
        CHECKS.equal("the step came before the drop, but not to stay", mill.time(), 0);
        CHECKS.equal("nor did the noise", mill.exists(0), false);
        runs(mill, "noise 1 1 30;drop 0;step", "3");
        CHECKS.equal("time", mill.time(), 1);
        runs(mill, "noise 1 1 25;step 2;ship 0 1", "3");
        CHECKS.equal("20 of 25 grains were shipped", mill.flour(0) + " " + mill.shippedSacks(0), "0 1");
        runs(mill, "step 40;gear 0 1;mesh 1 5;clear 0;noise 1 1 1;step 41", "failed at 5");
        CHECKS.equal("none took effect", mill.time() + " " + mill.gear(0) + " " + mill.mesh(1), "3 5 0");
        CHECKS.equal("and the number is given anew", mill.addNoise(0, 1, 1), 2);
    }

    private static void firstWrongCharacter() {
        runs(new NoiseMill(), "x", "no form at 0");
        runs(new NoiseMill(), "sx", "no form at 1");
        runs(new NoiseMill(), "snoise", "no form at 1");
        runs(new NoiseMill(), "stex", "no form at 3");
        runs(new NoiseMill(), "shep", "no form at 2");
        runs(new NoiseMill(), "stip", "no form at 2");
        runs(new NoiseMill(), "steps", "no form at 4");
        runs(new NoiseMill(), "noise x", "no form at 6");
        runs(new NoiseMill(), "step;step;stop", "no form at 12");
        runs(new NoiseMill(), "step 99;drop 99;gear 9 9;q", "no form at 25");
        runs(new NoiseMill(), TWELVE + "x", "no form at 59");
        runs(new NoiseMill(), "~" + TWELVE, "no form at 0");
        NoiseMill mill = new NoiseMill();
        runs(mill, "x step x", "no form at 0");
        runs(mill, "step x x", "no form at 5");
    }

    private static void endsTooEarly() {
        String[] words = {"noise 1 1 1", "drop 1", "gear 1 1", "mesh 1 1", "clear 1", "release 1", "ship 1 1"};
        for (String word : words) {
            NoiseMill mill = new NoiseMill();
            for (int length = 0; length < word.length(); length++) {
                runs(mill, word.substring(0, length), "no form at " + length);
                runs(mill, "step;" + word.substring(0, length), "no form at " + (5 + length));
            }
        }
        runs(new NoiseMill(), "ste", "no form at 3");
        runs(new NoiseMill(), "step ", "no form at 5");
        runs(new NoiseMill(), TWELVE + ";", "no form at 60");
        runs(new NoiseMill(), TWELVE + " ", "no form at 60");
        runs(new NoiseMill(), TWELVE.substring(0, 55) + "noise", "no form at 60");
        runs(new NoiseMill(), TWELVE.substring(0, 55) + "n", "no form at 56");
    }

    private static void changesThatChangeNothing() {
        NoiseMill mill = new NoiseMill();
        mill.setGear(0, 1);
        mill.setMesh(0, 3);
        mill.clearWheel(0);
        runs(mill, "gear 1 1", "1");
        runs(mill, "noise 1 1 1;drop 0", "2");
        CHECKS.equal("undo", mill.undo(), 4);
        for (int left = 3; left >= 0; left--) {
            CHECKS.equal("undo", mill.undo(), left);
        }
        CHECKS.fails("no more", Mills.STATE, mill::undo);
    }

    private static void eachChangeCounts() {
        counts(mill -> mill.addNoise(1, 1, 1));
        counts(mill -> mill.removeNoise(7));
        counts(mill -> mill.setGear(0, 1));
        counts(mill -> mill.setMesh(0, 1));
        counts(mill -> mill.clearWheel(0));
        counts(mill -> mill.releaseNoise(0));
        counts(mill -> mill.shipSacks(0, 1));
        counts(mill -> mill.advance(1));
        counts(mill -> Mills.script(mill, "step;step;step"));
    }

    /** After the call, whatever it is, there is one change more to undo than the three before it. */
    private static void counts(Consumer<NoiseMill> call) {
        NoiseMill mill = Mills.busy();
        Mills.told(mill::runScript);
        mill.restore();
        mill.advance(3);
        mill.addNoise(4, 4, 44);
        mill.addNoise(5, 9, 55);
        String before = Mills.state(mill);
        call.accept(mill);
        CHECKS.equal("undo", mill.undo(), 3);
        CHECKS.equal("state", Mills.state(mill), before);
    }

    private static void othersAreNoChanges() {
        NoiseMill mill = Mills.busy();
        mill.save();
        mill.renderSacks();
        mill.renderWheel(1);
        Mills.script(mill, ";");
        Mills.script(mill, "step 0");
        Mills.told(() -> mill.advance(0));
        mill.groundWithin(9);
        CHECKS.equal("undo", mill.undo(), 7);
        CHECKS.equal("the latest change was the removal of noise 8", mill.amount(8), 10);
    }

    private static void latestEight() {
        for (int changes = 1; changes <= 18; changes++) {
            NoiseMill mill = new NoiseMill();
            for (int change = 1; change <= changes; change++) {
                mill.advance(1);
            }
            for (int undone = 1; undone <= Math.min(changes, 8); undone++) {
                CHECKS.equal("undo " + undone + " of " + changes, mill.undo(), Math.min(changes, 8) - undone);
                CHECKS.equal("time", mill.time(), changes - undone);
            }
            CHECKS.fails("a 9th of " + changes, Mills.STATE, mill::undo);
            CHECKS.equal("time", mill.time(), Math.max(0, changes - 8));
        }
    }

    /** The changes of a long run, so that a mill can be made as it was after any number of them. */
    private static NoiseMill after(int changes) {
        NoiseMill mill = Mills.brimful();
        for (int change = 1; change <= changes; change++) {
            switch (change) {
                case 1: mill.addNoise(5, 5, 50); break;
                case 2: mill.addNoise(6, 6, 60); break;
                case 3: mill.setGear(1, 4); break;
                case 4: mill.advance(2); break;
                case 5: mill.releaseNoise(0); break;
                case 6: mill.removeNoise(4); break;
                case 7: mill.shipSacks(0, 1); break;
                case 8: mill.setMesh(0, 2); break;
                case 9: mill.clearWheel(0); break;
                case 10: Mills.script(mill, "noise 0 9 60;step 2;mesh 5 9;step"); break;
                default: mill.advance(40); break;
            }
        }
        return mill;
    }

    private static void undoCoversTheState() {
        for (int changes = 1; changes <= 11; changes++) {
            for (int undone = 0; undone <= Math.min(changes, 8); undone++) {
                NoiseMill mill = after(changes);
                for (int count = 0; count < undone; count++) {
                    mill.undo();
                }
                NoiseMill due = after(changes - undone);
                CHECKS.equal(undone + " of " + changes + " undone", Mills.state(mill), Mills.state(due));
                CHECKS.equal("the next number", mill.addNoise(0, 1, 1), due.addNoise(0, 1, 1));
                CHECKS.holds("isConsistent", mill.isConsistent());
                CHECKS.equal("and what comes then", mill.groundWithin(60), due.groundWithin(60));
            }
        }
    }

    private static void undoCoversTheLog() {
        for (int count = 3; count <= 19; count += 2) {
            NoiseMill mill = Mills.manyDone(count);
            mill.undo();
            CHECKS.equal("doneCount", mill.doneCount(), count - 2);
            CHECKS.equal("two of " + count + " undone", Mills.log(mill), Mills.log(Mills.manyDone(count - 2)));
            mill.advance(1);
            CHECKS.equal("and done again", Mills.log(mill), Mills.log(Mills.manyDone(count)));
        }
    }

    private static void undoLeavesTexts() {
        NoiseMill mill = Mills.busy();
        for (int left = 7; left >= 0; left--) {
            CHECKS.equal("undo", mill.undo(), left);
        }
        textsOfTheBusyMill(mill);
    }

    private static void restoreLeavesTexts() {
        NoiseMill mill = Mills.busy();
        mill.restore();
        textsOfTheBusyMill(mill);
    }

    private static void textsOfTheBusyMill(NoiseMill mill) {
        CHECKS.equal("the output text", Mills.wholeOutput(mill), "0g5w15!:3x30");
        CHECKS.equal("the error position", mill.errorPosition(), 6);
        CHECKS.equal("the failed command", mill.failedCommand(), 1);
        CHECKS.equal("the buffer has gear 0 in it", mill.type(' '), 7);
        mill.type('3');
        CHECKS.equal("the script", mill.runScript(), 1);
        CHECKS.equal("gear", mill.gear(0), 3);
    }

    private static void undoLeavesTheSnapshot() {
        NoiseMill mill = new NoiseMill();
        mill.addNoise(1, 1, 1);
        mill.save();
        mill.undo();
        CHECKS.equal("restore", mill.restore(), 1);
        mill.advance(5);
        CHECKS.equal("save", mill.save(), 0);
        mill.undo();
        CHECKS.equal("before the change", mill.time(), 0);
        CHECKS.equal("restore", mill.restore(), 0);
        CHECKS.equal("the latest snapshot, of a change that was undone", mill.time(), 5);
    }

    private static void numbersAreGivenAnew() {
        NoiseMill mill = new NoiseMill();
        mill.addNoise(1, 1, 10);
        mill.save();
        mill.addNoise(2, 2, 20);
        mill.undo();
        CHECKS.equal("after undo", mill.addNoise(3, 3, 30), 1);
        CHECKS.equal("the new one", mill.band(1), 3);
        mill.addNoise(3, 3, 30);
        mill.restore();
        CHECKS.equal("after restore", mill.addNoise(4, 4, 40), 1);
        runs(mill, "noise 5 5 5;noise 6 6 6", "2");
        mill.undo();
        CHECKS.equal("after an undone script", mill.addNoise(7, 7, 7), 2);
        mill.removeNoise(2);
        mill.undo();
        CHECKS.equal("the undone removal took no number", mill.addNoise(7, 7, 7), 3);
    }

    private static void bufferIsEmptyAfterwards() {
        for (String script : new String[] {"step", "step;", "step 0", "", "q"}) {
            NoiseMill mill = new NoiseMill();
            Mills.script(mill, script);
            CHECKS.equal("length after " + script, mill.type('s'), 1);
            runs(mill, "tep 3", "1");
        }
        NoiseMill mill = new NoiseMill();
        runs(mill, "step 12", "1");
        CHECKS.equal("nothing is run twice", Mills.told(mill::runScript), "IllegalArgumentException");
        CHECKS.equal("time", mill.time(), 12);
        runs(mill, "step 1", "1");
        CHECKS.equal("no digit is left of the longer one", mill.time(), 13);
    }

    private static void numberOfCommands() {
        for (int count = 1; count <= 12; count++) {
            NoiseMill mill = new NoiseMill();
            runs(mill, TWELVE.substring(0, 5 * count - 1), "" + count);
            CHECKS.equal("time", mill.time(), count);
        }
    }

    private static void latestErrorPosition() {
        NoiseMill mill = new NoiseMill();
        runs(mill, "step;x", "no form at 5");
        runs(mill, "step", "1");
        runs(mill, "step;drop 3", "failed at 1");
        CHECKS.equal("scripts with the form leave it", mill.errorPosition(), 5);
        CHECKS.equal("asking leaves it", mill.errorPosition(), 5);
        runs(mill, "", "no form at 0");
        CHECKS.equal("the latest", mill.errorPosition(), 0);
    }

    private static void latestFailedCommand() {
        NoiseMill mill = new NoiseMill();
        runs(mill, "step;step;drop 3;step 0", "failed at 2");
        runs(mill, "step", "1");
        runs(mill, "step;step;step;;", "no form at 15");
        CHECKS.equal("others leave it", mill.failedCommand(), 2);
        runs(mill, "step 0;step 0", "failed at 0");
        CHECKS.equal("the latest", mill.failedCommand(), 0);
        runs(mill, TWELVE.substring(0, 55) + "gear", "no form at 59");
        runs(mill, TWELVE.substring(0, 50) + "step;drop", "no form at 59");
        runs(mill, TWELVE.substring(0, 50) + "gear 9 1", "failed at 10");
    }

    private static void notUndoneTwice() {
        NoiseMill mill = new NoiseMill();
        mill.setMesh(0, 4);
        mill.setMesh(0, 5);
        mill.undo();
        mill.setMesh(0, 6);
        CHECKS.equal("the change after the undo", mill.undo(), 1);
        CHECKS.equal("mesh", mill.mesh(0), 4);
        CHECKS.equal("then the one before", mill.undo(), 0);
        CHECKS.equal("mesh", mill.mesh(0), 3);
        CHECKS.fails("none is undone twice", Mills.STATE, mill::undo);
    }

    private static void numberOfChangesLeft() {
        NoiseMill mill = new NoiseMill();
        for (int change = 0; change < 11; change++) {
            mill.advance(1);
        }
        CHECKS.equal("undo", mill.undo(), 7);
        CHECKS.equal("undo", mill.undo(), 6);
        CHECKS.equal("undo", mill.undo(), 5);
        mill.advance(10);
        mill.advance(10);
        CHECKS.equal("5 and 2 less 1", mill.undo(), 6);
        CHECKS.equal("time", mill.time(), 18);
        for (int left = 5; left >= 0; left--) {
            CHECKS.equal("undo", mill.undo(), left);
            CHECKS.equal("time", mill.time(), 3 + left);
        }
        CHECKS.fails("the oldest are gone", Mills.STATE, mill::undo);
    }

    private static void snapshotReplaces() {
        NoiseMill mill = new NoiseMill();
        CHECKS.equal("save", mill.save(), 0);
        mill.addNoise(1, 1, 1);
        CHECKS.equal("save", mill.save(), 1);
        mill.addNoise(1, 1, 1);
        CHECKS.equal("the later one", mill.restore(), 1);
        mill.addNoise(2, 2, 2);
        CHECKS.equal("save", mill.save(), 2);
        mill.removeNoise(0);
        mill.removeNoise(1);
        CHECKS.equal("the latest", mill.restore(), 2);
        CHECKS.equal("order", Mills.order(mill), "1 0");
    }

    private static void snapshotIsKept() {
        String saved = Mills.state(after(9));
        NoiseMill mill = after(9);
        CHECKS.equal("save", mill.save(), 0);
        Mills.script(mill, "noise 0 9 60;step 2;mesh 5 9;step");
        mill.advance(40);
        mill.shipSacks(0, 1);
        CHECKS.equal("restore", mill.restore(), 0);
        CHECKS.equal("state", Mills.state(mill), saved);
        CHECKS.equal("numbers too", mill.addNoise(1, 2, 3), 5);
        mill.advance(7);
        CHECKS.equal("restore once more", mill.restore(), 0);
        CHECKS.equal("state", Mills.state(mill), saved);
    }

    private static void nothingToUndoAfterwards() {
        NoiseMill mill = after(11);
        mill.save();
        mill.restore();
        CHECKS.fails("nothing to undo", Mills.STATE, mill::undo);
        mill.setMesh(0, 5);
        mill.setMesh(0, 6);
        CHECKS.equal("only what came since", mill.undo(), 1);
        CHECKS.equal("undo", mill.undo(), 0);
        CHECKS.fails("nothing to undo", Mills.STATE, mill::undo);
        CHECKS.equal("mesh", mill.mesh(0), 2);
    }

    private static void waitingWhenSavedAndRestored() {
        NoiseMill mill = Mills.full();
        CHECKS.equal("save with 12", mill.save(), 12);
        mill.advance(1);
        CHECKS.equal("restore with 9", mill.restore(), 12);
        CHECKS.equal("waitingCount", mill.waitingCount(), 12);
        for (int noise = 0; noise < 12; noise++) {
            mill.removeNoise(noise);
        }
        CHECKS.equal("restore with none", mill.restore(), 12);
        mill.advance(1);
        CHECKS.equal("those on wheels do not wait", mill.save(), 9);
        NoiseMill other = new NoiseMill();
        CHECKS.equal("save with none", other.save(), 0);
        other.addNoise(1, 1, 1);
        CHECKS.equal("restore with 1", other.restore(), 0);
        CHECKS.equal("waitingCount", other.waitingCount(), 0);
    }
}
