import java.io.IOException;

/** The sentences of single promises, from 1 to 53, that name an edge of an answer; each has a test of its own. */
public final class AnswersTest {
    private static final Checks CHECKS = new Checks();

    private AnswersTest() {
    }

    public static void main(String[] args) throws IOException {
        Document document = new Document(CHECKS);
        document.says("Promise 1", "Creates a mill without noises and flour at time 0.");
        newMill();
        document.says("Promise 3", "Returns its amount.");
        amountOfTheRemoved();
        document.says("Promise 4", "Returns the previous gear.");
        document.says("Promise 5", "Returns the previous mesh.");
        previousGearAndMesh();
        document.says("Promise 6", "Clears a wheel, jammed or not: its wear becomes 0.");
        clearsJammedOrNot();
        document.says("Promise 7", "Takes the noise from a wheel; it waits again, with the amount that is left.");
        waitsAgain();
        document.says("Promise 8", "Returns the number of full sacks of this grade that are left.");
        sacksLeft();
        document.says("Promise 9", "Returns the number of grains that are ground.");
        grainsGround();
        document.says("Promise 14", "Returns true if there is a noise with this number.");
        anyNumberMayBeAsked();
        document.says("Promise 18", "Returns true if it waits, false if it is on a wheel.");
        waitsOrNot();
        document.says("Promise 25", "Returns whether grains of a band have been ground so far.");
        document.says("Promise 26", "Returns the number of bands of which grains have been ground so far.");
        bandsGround();
        document.says("Promise 31", "Returns the number of sacks of a grade that were shipped so far.");
        sacksShipped();
        document.says("Promise 37",
            "Predicts after how many steps the noise that a wheel holds is done, by simulation.");
        document.says("Promise 38", "Predicts the same number as stepsUntilDone, computed from amount, gear and wear.");
        stepsUntilDone();
        document.says("Promise 39", "Returns the number of steps, 0 if it is jammed now.");
        stepsUntilJam();
        document.says("Promise 40", "Predicts the number of grains that are ground in some steps.");
        groundWithin();
        document.says("Promise 42", "`recency`: 0 for the latest one, 1 for the one before, and so on");
        recency();
        document.says("Promise 45",
            "Returns the wheel at a rank when wheels are sorted by wear in descending order, then "
            + "by gear in descending order, then by number in ascending order.");
        wheelsSorted();
        document.says("Promise 46",
            "Returns the band at a rank when bands are sorted by the grains recorded for them in "
            + "all grades in descending order, then by mesh in ascending order, then by number in ascending order.");
        bandsSorted();
        document.says("Promise 47", "Returns the mean loudness of the waiting noises: the sum divided by the number of "
            + "noises, both converted to double.");
        meanLoudness();
        document.says("Promise 48", "Returns the share of lost grains, in sieves or for want of room, among the ground "
            + "ones, both numbers converted to float.");
        lostShare();
        document.says("Promise 49",
            "stepsUntilDone and stepsUntilDoneByRate agree for all wheels or both find nothing");
        consistentInEveryState();
        document.says("Promise 50",
            "Replaces the output text by a description of a wheel: its number, \"g\", its gear, "
            + "\"w\", its wear, \"!\" if it is jammed, and \":\", the number of the noise that it holds, \"x\" and the amount "
            + "of the noise, or \":-\" if it holds none, as in \"0g3w6:5x18\".");
        wheelTexts();
        document.says("Promise 51",
            "for each the number of full sacks, \"+\" and the grains in the open sack, as in \"2+15 "
            + "0+0 6+19 0+3\".");
        sackTexts();
        document.says("Promise 52", "Returns a character of the output text, which is empty initially.");
        textIsEmptyInitially();
        document.says("Promise 53", "Appends a character to the script buffer.");
        everyCharacterIsAppended();
        CHECKS.end();
    }

    private static void newMill() {
        NoiseMill mill = new NoiseMill();
        CHECKS.equal("no waiting noise", mill.waitingCount(), 0);
        for (int wheel = 0; wheel < 3; wheel++) {
            CHECKS.equal("nor one on a wheel", Mills.wheel(mill, wheel), wheel + "g1w0:-");
        }
        CHECKS.equal("no flour", Mills.sacks(mill), "0+0 0+0 0+0 0+0");
        CHECKS.equal("time", mill.time(), 0);
        CHECKS.equal("the first number", mill.addNoise(0, 1, 1), 0);
        NoiseMill other = new NoiseMill();
        CHECKS.equal("mills know nothing of one another", Mills.state(other), Mills.state(new NoiseMill()));
    }

    private static void amountOfTheRemoved() {
        for (int amount : new int[] {1, 2, 59, 60}) {
            NoiseMill mill = new NoiseMill();
            mill.addNoise(0, 1, amount);
            CHECKS.equal("removeNoise", mill.removeNoise(0), amount);
        }
        NoiseMill mill = Mills.busy();
        mill.releaseNoise(0);
        CHECKS.equal("what is left of it", mill.removeNoise(3), 30);
        CHECKS.equal("the others", Mills.order(mill), "7 6");
        NoiseMill full = Mills.full();
        for (int noise : new int[] {0, 11, 5, 1, 10, 9, 2, 3, 4, 6, 8, 7}) {
            full.removeNoise(noise);
            CHECKS.equal("exists", full.exists(noise), false);
        }
        CHECKS.equal("none is left", full.waitingCount(), 0);
    }

    private static void previousGearAndMesh() {
        NoiseMill mill = new NoiseMill();
        for (int wheel = 0; wheel < 3; wheel++) {
            CHECKS.equal("the initial one", mill.setGear(wheel, 5), 1);
            CHECKS.equal("the greatest", mill.setGear(wheel, 5), 5);
            CHECKS.equal("the same again", mill.setGear(wheel, 1), 5);
        }
        for (int band = 0; band < 8; band++) {
            CHECKS.equal("the initial one", mill.setMesh(band, 9), 3);
            CHECKS.equal("the greatest", mill.setMesh(band, 0), 9);
            CHECKS.equal("the least", mill.setMesh(band, 1), 0);
        }
        Mills.script(mill, "gear 0 4;mesh 0 7");
        CHECKS.equal("from a script", mill.setGear(0, 1) + " " + mill.setMesh(0, 1), "4 7");
    }

    private static void clearsJammedOrNot() {
        for (int wear = 0; wear <= 12; wear++) {
            NoiseMill mill = new NoiseMill();
            mill.addNoise(0, 1, 60);
            for (int step = 0; step < wear; step++) {
                mill.advance(1);
            }
            CHECKS.equal("clearWheel", mill.clearWheel(0), wear);
            CHECKS.equal("wear", mill.wear(0), 0);
            CHECKS.equal("isJammed", mill.isJammed(0), false);
            CHECKS.equal("the noise stays", mill.exists(0), true);
        }
        NoiseMill mill = Mills.busy();
        String before = Mills.wheel(mill, 2);
        mill.clearWheel(0);
        CHECKS.equal("only its wear", Mills.wheel(mill, 0), "0g5w0:3x30");
        CHECKS.equal("only this wheel", Mills.wheel(mill, 2), before);
    }

    private static void waitsAgain() {
        NoiseMill mill = Mills.busy();
        CHECKS.equal("releaseNoise", mill.releaseNoise(0), 3);
        CHECKS.equal("amount", mill.amount(3), 30);
        CHECKS.equal("by its loudness", Mills.order(mill), "7 3 6");
        CHECKS.equal("the wheel stays jammed", Mills.wheel(mill, 0), "0g5w15!:-");
        CHECKS.equal("releaseNoise", mill.releaseNoise(2), 5);
        CHECKS.equal("order", Mills.order(mill), "7 3 5 6");
        mill.advance(1);
        CHECKS.equal("another wheel takes the rest of it", mill.noiseOn(2) + " " + mill.amount(3), "3 28");
        CHECKS.equal("doneCount", mill.doneCount(), 4);
        CHECKS.fails("nothing is left to release", Mills.ELEMENT, () -> mill.releaseNoise(0));
    }

    private static void sacksLeft() {
        for (int sacks = 1; sacks <= 6; sacks++) {
            NoiseMill mill = Mills.withFlour(139);
            CHECKS.equal("shipSacks", mill.shipSacks(0, sacks), 6 - sacks);
            CHECKS.equal("fullSacks", mill.fullSacks(0), 6 - sacks);
            CHECKS.equal("openSack", mill.openSack(0), 19);
        }
    }

    private static void grainsGround() {
        NoiseMill mill = new NoiseMill();
        CHECKS.equal("no noise", mill.advance(40), 0);
        mill.setMesh(0, 9);
        mill.addNoise(0, 1, 5);
        CHECKS.equal("lost ones too, and no more than there are", mill.advance(40), 5);
        NoiseMill full = Mills.withFlour(139);
        full.addNoise(0, 1, 10);
        CHECKS.equal("those without room too", full.advance(1), 10);
        CHECKS.equal("groundTotal", full.groundTotal(), 149);
    }

    private static void anyNumberMayBeAsked() {
        NoiseMill mill = Mills.busy();
        StringBuilder found = new StringBuilder();
        for (int noise = -10; noise < 30; noise++) {
            found.append(mill.exists(noise) ? " " + noise : "");
        }
        CHECKS.equal("on wheels and waiting", found.toString(), " 3 5 6 7");
        for (int far : Mills.FAR_INTS) {
            CHECKS.equal("exists " + far, mill.exists(far), false);
        }
        for (int noise = -1; noise < 3; noise++) {
            CHECKS.equal("in a new mill", new NoiseMill().exists(noise), false);
        }
    }

    private static void waitsOrNot() {
        NoiseMill mill = Mills.busy();
        String waits = mill.isWaiting(3) + " " + mill.isWaiting(5) + " " + mill.isWaiting(6) + " " + mill.isWaiting(7);
        CHECKS.equal("3, 5, 6, 7", waits, "false false true true");
        mill.releaseNoise(0);
        CHECKS.equal("released", mill.isWaiting(3), true);
    }

    private static void bandsGround() {
        for (int band = 0; band < 8; band++) {
            NoiseMill mill = new NoiseMill();
            mill.addNoise(band, 1, 3);
            CHECKS.equal("it waits", mill.isBandGround(band), false);
            CHECKS.equal("groundBands", mill.groundBands(), 0);
            mill.advance(1);
            for (int other = 0; other < 8; other++) {
                CHECKS.equal("isBandGround", mill.isBandGround(other), other == band);
            }
            CHECKS.equal("groundBands", mill.groundBands(), 1);
            mill.undo();
            CHECKS.equal("undone", mill.isBandGround(band), false);
        }
        NoiseMill all = new NoiseMill();
        for (int band = 0; band < 8; band++) {
            Mills.grind(all, band, 1);
            CHECKS.equal("groundBands", all.groundBands(), band + 1);
        }
        NoiseMill lost = Mills.withFlour(139);
        lost.setMesh(3, 0);
        Mills.grind(lost, 3, 10);
        CHECKS.equal("ground, although all of it was lost", lost.isBandGround(3), true);
        CHECKS.equal("groundBands", lost.groundBands(), 2);
    }

    private static void sacksShipped() {
        NoiseMill mill = Mills.withFlour(139);
        mill.shipSacks(0, 6);
        Mills.grind(mill, 0, 60);
        mill.shipSacks(0, 3);
        CHECKS.equal("all of them", mill.shippedSacks(0), 9);
        CHECKS.equal("shippedSacks", mill.shippedSacks(1) + mill.shippedSacks(2) + mill.shippedSacks(3), 0);
        CHECKS.fails("a sack of 19", Mills.UNSUPPORTED, () -> mill.shipSacks(0, 1));
        CHECKS.equal("a refused one is not counted", mill.shippedSacks(0), 9);
        for (int grade = 0; grade < 4; grade++) {
            NoiseMill each = Mills.aSackOfEach();
            each.shipSacks(grade, 1);
            for (int other = 0; other < 4; other++) {
                CHECKS.equal("shippedSacks", each.shippedSacks(other), other == grade ? 1 : 0);
            }
        }
    }

    /** After one step at gear 1 the wear is 1; then a gear is set, and the steps are counted on the mill itself. */
    private static void stepsUntilDone() {
        for (int amount = 3; amount <= 60; amount++) {
            for (int gear = 1; gear <= 5; gear++) {
                NoiseMill mill = new NoiseMill();
                mill.addNoise(0, 1, amount);
                mill.advance(1);
                mill.setGear(0, gear);
                String simulated = Mills.told(() -> mill.stepsUntilDone(0));
                String computed = Mills.told(() -> mill.stepsUntilDoneByRate(0));
                int steps = 0;
                while (mill.exists(0) && !mill.isJammed(0)) {
                    mill.advance(1);
                    steps++;
                }
                String due = mill.exists(0) ? "NoSuchElementException" : "" + steps;
                CHECKS.equal("stepsUntilDone of " + amount + ", gear " + gear, simulated, due);
                CHECKS.equal("stepsUntilDoneByRate of " + amount + ", gear " + gear, computed, due);
            }
        }
    }

    private static void stepsUntilJam() {
        for (int gear = 1; gear <= 5; gear++) {
            NoiseMill mill = new NoiseMill();
            mill.addNoise(0, 1, 60);
            mill.setGear(0, gear);
            for (int left = (11 + gear) / gear; left >= 0; left--) {
                CHECKS.equal("gear " + gear, mill.stepsUntilJam(0), left);
                CHECKS.equal("isJammed", mill.isJammed(0), left == 0);
                mill.advance(1);
            }
            CHECKS.equal("it stays jammed", mill.stepsUntilJam(0), 0);
            mill.clearWheel(0);
            mill.releaseNoise(0);
            mill.removeNoise(0);
            CHECKS.fails("nothing to grind", Mills.ELEMENT, () -> mill.stepsUntilJam(0));
        }
        NoiseMill mill = new NoiseMill();
        mill.addNoise(0, 1, 1);
        mill.advance(1);
        for (int noise = 0; noise < 11; noise++) {
            mill.addNoise(0, 1, noise == 10 ? 3 : 6);
        }
        CHECKS.equal("over several noises: 3 and 3 steps, 3 steps, 2 steps", mill.stepsUntilJam(0), 11);
        CHECKS.fails("wheel 2 comes to wear 9", Mills.ELEMENT, () -> mill.stepsUntilJam(2));
    }

    private static void groundWithin() {
        NoiseMill mill = new NoiseMill();
        mill.addNoise(0, 1, 24);
        CHECKS.equal("in no step", mill.groundWithin(0), 0);
        CHECKS.equal("in 1 step", mill.groundWithin(1), 2);
        CHECKS.equal("in 11 steps", mill.groundWithin(11), 22);
        CHECKS.equal("in 12 steps", mill.groundWithin(12), 24);
        CHECKS.equal("in 60 steps", mill.groundWithin(60), 24);
        NoiseMill late = new NoiseMill();
        for (int wheel = 0; wheel < 3; wheel++) {
            late.addNoise(0, 9, 22);
        }
        for (int noise = 0; noise < 9; noise++) {
            late.addNoise(0, 1, 60);
        }
        CHECKS.equal("each wheel has 12 steps", late.groundWithin(60), 72);
        CHECKS.equal("each wheel has 12 steps", late.groundWithin(12), 72);
        CHECKS.equal("11 of them", late.groundWithin(11), 66);
    }

    private static void recency() {
        NoiseMill mill = new NoiseMill();
        for (int noise = 0; noise < 10; noise++) {
            Mills.grind(mill, noise % 8, 1 + 2 * (noise % 2));
            CHECKS.equal("the latest", mill.doneNumber(0) + " " + mill.doneTime(0), noise + " " + mill.time());
        }
        CHECKS.equal("log", Mills.log(mill), "9@0@15 8@0@13 7@0@12 6@0@10 5@0@9 4@0@7 3@0@6 2@0@4");
        mill.undo();
        mill.undo();
        CHECKS.equal("the 9 before", Mills.log(mill), "8@0@13 7@0@12 6@0@10 5@0@9 4@0@7 3@0@6 2@0@4 1@0@3");
    }

    private static void wheelsSorted() {
        int[][] gears = {{1, 1, 1, 0, 1, 2}, {1, 1, 5, 2, 0, 1}, {1, 5, 5, 1, 2, 0}, {2, 5, 1, 1, 0, 2},
            {3, 2, 1, 0, 1, 2}, {2, 1, 2, 0, 2, 1}};
        for (int[] six : gears) {
            NoiseMill mill = new NoiseMill();
            for (int wheel = 0; wheel < 3; wheel++) {
                mill.setGear(wheel, six[wheel]);
            }
            String due = six[3] + " " + six[4] + " " + six[5];
            CHECKS.equal("by gear", ranks(mill), due);
            for (int noise = 0; noise < 3; noise++) {
                mill.addNoise(0, 1, 60);
            }
            mill.advance(1);
            CHECKS.equal("by wear, which is the gear", ranks(mill), due);
            for (int wheel = 0; wheel < 3; wheel++) {
                mill.setGear(wheel, 6 - six[wheel]);
            }
            CHECKS.equal("wear comes before gear", ranks(mill), due);
        }
        NoiseMill mill = Mills.threeTurn();
        mill.clearWheel(0);
        CHECKS.equal("the clear one last", ranks(mill), "1 2 0");
        mill.setGear(2, 2);
        CHECKS.equal("the same wear, by gear", ranks(mill), "2 1 0");
    }

    private static String ranks(NoiseMill mill) {
        return mill.wheelByWear(0) + " " + mill.wheelByWear(1) + " " + mill.wheelByWear(2);
    }

    private static void bandsSorted() {
        NoiseMill mill = new NoiseMill();
        CHECKS.equal("by number", bands(mill), "01234567");
        for (int band = 0; band < 8; band++) {
            mill.setMesh(band, 9 - band);
        }
        CHECKS.equal("by mesh", bands(mill), "76543210");
        Mills.grind(mill, 2, 1);
        Mills.grind(mill, 0, 1);
        CHECKS.equal("a grain of each, by mesh", bands(mill), "20765431");
        mill.setMesh(2, 9);
        CHECKS.equal("a grain of each, the same mesh, by number", bands(mill), "02765431");
        mill.setMesh(0, 0);
        mill.setMesh(2, 9);
        Mills.grind(mill, 2, 1);
        CHECKS.equal("2 grains before 1", bands(mill), "20765431");
        Mills.grind(mill, 0, 1);
        CHECKS.equal("two grades of band 0 are added", bands(mill), "02765431");
        NoiseMill shipped = Mills.aSackOfEach();
        String before = bands(shipped);
        shipped.shipSacks(0, 1);
        CHECKS.equal("records, not flour", bands(shipped), before);
        CHECKS.equal("24, 24, 21, 21", before, "01234567");
    }

    private static String bands(NoiseMill mill) {
        StringBuilder text = new StringBuilder();
        for (int rank = 0; rank < 8; rank++) {
            text.append(mill.bandByGrains(rank));
        }
        return text.toString();
    }

    private static void meanLoudness() {
        NoiseMill mill = new NoiseMill();
        int sum = 0;
        for (int count = 1; count <= 12; count++) {
            int loudness = 1 + count * 7 % 9;
            sum += loudness;
            mill.addNoise(0, loudness, 60);
            CHECKS.equal("of " + count, mill.meanLoudness(), (double) sum / (double) count);
        }
        NoiseMill two = new NoiseMill();
        two.addNoise(0, 1, 60);
        two.addNoise(0, 2, 60);
        CHECKS.equal("it is not rounded down", two.meanLoudness(), 1.5);
        two.addNoise(0, 9, 60);
        two.removeNoise(2);
        CHECKS.equal("a removed one is not counted", two.meanLoudness(), 1.5);
        mill.advance(1);
        mill.addNoise(0, 1, 60);
        double due = (double) (sum - 24) / 10.0;
        CHECKS.equal("nor are the 9, 8 and 8 on wheels, but the new 1", mill.meanLoudness(), due);
    }

    private static void lostShare() {
        NoiseMill mill = new NoiseMill();
        mill.addNoise(0, 1, 1);
        mill.advance(1);
        CHECKS.equal("nothing lost", mill.lostShare(), 0.0f);
        NoiseMill room = Mills.withFlour(139);
        Mills.grind(room, 0, 3);
        CHECKS.equal("only for want of room", room.lostShare(), 3.0f / 142.0f);
        room.setMesh(5, 9);
        Mills.grind(room, 5, 10);
        CHECKS.equal("in the sieve too", room.lostShare(), 12.0f / 152.0f);
    }

    private static void consistentInEveryState() {
        NoiseMill[] mills = {new NoiseMill(), Mills.full(), Mills.brimful(), Mills.busy(), Mills.busyAndFull(),
            Mills.threeTurn(), Mills.aSackOfEach(), Mills.manyDone(9), Mills.withFlour(160)};
        for (NoiseMill mill : mills) {
            CHECKS.holds("isConsistent", mill.isConsistent());
            mill.advance(1);
            CHECKS.holds("after a step", mill.isConsistent());
            mill.undo();
            CHECKS.holds("after undo", mill.isConsistent());
        }
    }

    private static void wheelTexts() {
        NoiseMill mill = Mills.busy();
        CHECKS.equal("length", mill.renderWheel(0), 12);
        CHECKS.equal("jammed, with a noise", Mills.output(mill, 12), "0g5w15!:3x30");
        CHECKS.equal("length", mill.renderWheel(1), 7);
        CHECKS.equal("not jammed, without one", Mills.output(mill, 7), "1g2w2:-");
        CHECKS.equal("length", mill.renderWheel(2), 10);
        CHECKS.equal("not jammed, with a noise", Mills.output(mill, 10), "2g1w3:5x54");
        mill.releaseNoise(0);
        CHECKS.equal("length", mill.renderWheel(0), 9);
        CHECKS.equal("jammed, without one", Mills.output(mill, 9), "0g5w15!:-");
        for (int worn = 10; worn <= 12; worn++) {
            NoiseMill one = new NoiseMill();
            one.addNoise(0, 1, 60);
            one.advance(worn);
            CHECKS.equal("wear " + worn, Mills.wheel(one, 0), "0g1w" + worn + (worn == 12 ? "!" : "") + ":0x"
                + (60 - 2 * worn));
        }
        NoiseMill far = new NoiseMill();
        for (int count = 0; count < 120; count++) {
            far.removeNoise(far.addNoise(0, 1, 1));
        }
        far.addNoise(0, 1, 60);
        far.advance(1);
        CHECKS.equal("a number of three digits", Mills.wheel(far, 0), "0g1w1:120x58");
    }

    private static void sackTexts() {
        for (int grains : new int[] {0, 1, 19, 20, 39, 120, 139}) {
            NoiseMill mill = Mills.withFlour(grains);
            String due = grains / 20 + "+" + grains % 20 + " 0+0 0+0 0+0";
            CHECKS.equal("length", mill.renderSacks(), due.length());
            CHECKS.equal("sacks", Mills.wholeOutput(mill), due);
        }
        CHECKS.equal("each grade", Mills.sacks(Mills.aSackOfEach()), "1+4 1+4 1+1 1+1");
        NoiseMill mill = Mills.busy();
        mill.renderSacks();
        CHECKS.equal("it replaces a wheel's text", Mills.wholeOutput(mill), "4+19 1+10 0+0 0+0");
    }

    private static void textIsEmptyInitially() {
        NoiseMill mill = new NoiseMill();
        CHECKS.equal("initially", Mills.wholeOutput(mill), "");
        Mills.told(() -> mill.renderWheel(3));
        CHECKS.equal("a refused call makes none", Mills.wholeOutput(mill), "");
        mill.renderWheel(0);
        CHECKS.equal("the first", mill.outputAt(0), '0');
        CHECKS.equal("the last", mill.outputAt(6), '-');
        Mills.told(() -> mill.renderWheel(-1));
        CHECKS.equal("a refused call leaves it", Mills.wholeOutput(mill), "0g1w0:-");
    }

    private static void everyCharacterIsAppended() {
        for (int code = 32; code <= 126; code++) {
            NoiseMill mill = new NoiseMill();
            CHECKS.equal("code " + code, mill.type((char) code), 1);
            Mills.type(mill, "step");
            boolean begins = "cdgmnrs".indexOf(code) >= 0;
            CHECKS.equal("it stands before step", Mills.told(mill::runScript), "IllegalArgumentException");
            CHECKS.equal("errorPosition", mill.errorPosition(), begins ? 1 : 0);
        }
    }
}
