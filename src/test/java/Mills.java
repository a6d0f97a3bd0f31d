import java.util.concurrent.Callable;

/** What several tests do with mills. */
final class Mills {
    static final Class<IllegalArgumentException> ARGUMENT = IllegalArgumentException.class;
    static final Class<IllegalStateException> STATE = IllegalStateException.class;
    static final Class<IndexOutOfBoundsException> INDEX = IndexOutOfBoundsException.class;
    static final Class<java.util.NoSuchElementException> ELEMENT = java.util.NoSuchElementException.class;
    static final Class<UnsupportedOperationException> UNSUPPORTED = UnsupportedOperationException.class;
    static final Class<ArithmeticException> ARITHMETIC = ArithmeticException.class;

    static final int[] FAR_INTS = {Integer.MIN_VALUE, Integer.MIN_VALUE + 1, -1000, 1000, Integer.MAX_VALUE - 1,
        Integer.MAX_VALUE};

    private Mills() {
    }

    static void type(NoiseMill mill, String text) {
        for (char character : text.toCharArray()) {
            mill.type(character);
        }
    }

    static String output(NoiseMill mill, int length) {
        StringBuilder text = new StringBuilder();
        for (int index = 0; index < length; index++) {
            text.append(mill.outputAt(index));
        }
        return text.toString();
    }

    static String wheel(NoiseMill mill, int wheel) {
        return output(mill, mill.renderWheel(wheel));
    }

    static String sacks(NoiseMill mill) {
        return output(mill, mill.renderSacks());
    }

    static String order(NoiseMill mill) {
        StringBuilder text = new StringBuilder();
        int count = mill.waitingCount();
        for (int rank = 0; rank < count; rank++) {
            text.append(rank == 0 ? "" : " ").append(mill.waitingAt(rank));
        }
        return text.toString();
    }

    static String log(NoiseMill mill) {
        StringBuilder text = new StringBuilder();
        int count = Math.min(8, mill.doneCount());
        for (int recency = 0; recency < count; recency++) {
            text.append(recency == 0 ? "" : " ").append(mill.doneNumber(recency)).append('@')
                .append(mill.doneWheel(recency)).append('@').append(mill.doneTime(recency));
        }
        return text.toString();
    }

    /** The answer of a call as a text, or the name of what it throws. */
    static String told(Callable<?> call) {
        try {
            return String.valueOf(call.call());
        } catch (Exception e) {
            return e.getClass().getSimpleName();
        }
    }

    /**
     * What undo and the snapshot cover, as a text, but for the number that is given next. It takes at
     * most 156 calls, so that an object can be asked twice within the 512 that are promised.
     */
    static String state(NoiseMill mill) {
        StringBuilder text = new StringBuilder("time ").append(mill.time());
        String order = order(mill);
        text.append("\nwaiting").append(noises(mill, order)).append("\nwheels");
        for (int wheel = 0; wheel < 3; wheel++) {
            int one = wheel;
            String noise = told(() -> mill.noiseOn(one));
            text.append(' ').append(mill.gear(wheel)).append(',').append(mill.wear(wheel)).append(',')
                .append(mill.isJammed(wheel)).append(noise.startsWith("No") ? "" : noises(mill, noise));
        }
        text.append("\nbands");
        for (int band = 0; band < 8; band++) {
            text.append(' ').append(mill.mesh(band)).append(mill.isBandGround(band));
            for (int grade = 0; grade < 4; grade++) {
                text.append(',').append(mill.recorded(band, grade));
            }
        }
        text.append("\ngrades");
        for (int grade = 0; grade < 4; grade++) {
            text.append(' ').append(mill.flour(grade)).append(',').append(mill.shippedSacks(grade));
        }
        return text.append("\nground ").append(mill.groundTotal()).append(" lost ").append(mill.lostInSieves())
            .append(',').append(mill.lostForRoom()).append("\ndone ").append(mill.doneCount()).append(": ")
            .append(log(mill)).toString();
    }

    private static String noises(NoiseMill mill, String numbers) {
        StringBuilder text = new StringBuilder();
        for (String number : numbers.isEmpty() ? new String[0] : numbers.split(" ")) {
            int noise = Integer.parseInt(number);
            text.append(' ').append(noise).append(':').append(mill.band(noise)).append(',')
                .append(mill.loudness(noise)).append(',').append(mill.amount(noise));
        }
        return text.toString();
    }

    /** The whole output text; it is asked for until there is no more of it. */
    static String wholeOutput(NoiseMill mill) {
        StringBuilder text = new StringBuilder();
        for (int index = 0; index < 100; index++) {
            int at = index;
            String sign = told(() -> mill.outputAt(at));
            if (sign.length() != 1) {
                return text.toString();
            }
            text.append(sign);
        }
        return text.append(" and more").toString();
    }

    /** Types a script, runs it, and tells the answer, or the exception with what is known of it. */
    static String script(NoiseMill mill, String text) {
        type(mill, text);
        String answer = told(mill::runScript);
        return answer.equals("IllegalArgumentException") ? "no form at " + mill.errorPosition()
            : answer.equals("IllegalStateException") ? "failed at " + mill.failedCommand() : answer;
    }

    /** A mill with 12 waiting noises, 0 to 11, of band 0, loudness 5 and amount 10. */
    static NoiseMill full() {
        NoiseMill mill = new NoiseMill();
        for (int count = 0; count < 12; count++) {
            mill.addNoise(0, 5, 10);
        }
        return mill;
    }

    /**
     * A mill whose flour of grade 0 is 139: wheel 0 has ground three noises of band 0, numbers 0 to 2,
     * of 60, 60 and 19 grains at gear 5 with mesh 0. It is empty and clear afterwards; the time is 14.
     */
    static NoiseMill brimful() {
        NoiseMill mill = new NoiseMill();
        mill.setMesh(0, 0);
        mill.setGear(0, 5);
        int[] amounts = {60, 60, 19};
        int[] steps = {6, 6, 2};
        for (int index = 0; index < amounts.length; index++) {
            mill.addNoise(0, 9, amounts[index]);
            for (int passed = 0; passed < steps[index]; passed++) {
                mill.advance(1);
                mill.clearWheel(0);
            }
        }
        return mill;
    }

    /**
     * A mill in the midst of everything, after 72 calls. Noises 0 to 2 and 4 are done, 8 was removed; 3 is
     * on wheel 0, which is jammed; 5 is on wheel 2; 7 and 6 wait. There are 99 grains of grade 0 and 2 sacks
     * of it shipped, a snapshot from before the latest steps, 8 changes to undo, an output text, half a
     * script in the buffer, the error position 6 and the failed command 1.
     */
    static NoiseMill busy() {
        NoiseMill mill = brimful();
        mill.shipSacks(0, 2);
        mill.addNoise(1, 7, 60);
        mill.addNoise(2, 6, 3);
        mill.addNoise(3, 5, 60);
        mill.setGear(1, 2);
        mill.save();
        mill.advance(3);
        mill.addNoise(4, 4, 44);
        mill.addNoise(5, 9, 55);
        mill.addNoise(6, 4, 10);
        mill.removeNoise(8);
        script(mill, "step 1x");
        script(mill, "step;drop 99");
        type(mill, "gear 0");
        mill.renderWheel(0);
        return mill;
    }

    /** The busy mill with 12 waiting noises: 9 to 18 besides 6 and 7. */
    static NoiseMill busyAndFull() {
        NoiseMill mill = busy();
        for (int count = 0; count < 10; count++) {
            mill.addNoise(7, 1 + count % 9, 20);
        }
        return mill;
    }

    /** A mill whose wheels hold the noises 0 to 2, which are done in the step that jams the wheel; none waits. */
    static NoiseMill threeTurn() {
        NoiseMill mill = new NoiseMill();
        for (int count = 0; count < 3; count++) {
            mill.addNoise(count, 5, 24);
        }
        mill.advance(1);
        return mill;
    }

    /** A mill with one full sack of each grade: 24, 24, 21 and 21 grains of the bands 0 to 3. */
    static NoiseMill aSackOfEach() {
        NoiseMill mill = new NoiseMill();
        for (int grade = 0; grade < 4; grade++) {
            mill.setMesh(grade, 3 * grade);
            for (int wheel = 0; wheel < 3; wheel++) {
                mill.clearWheel(wheel);
                mill.addNoise(grade, 5, grade < 2 ? 8 : 14);
            }
            mill.advance(7);
        }
        return mill;
    }

    /** A mill that has done a number of noises, from 0 on, of a grain each, with steps between them. */
    static NoiseMill manyDone(int count) {
        NoiseMill mill = new NoiseMill();
        for (int noise = 0; noise < count; noise++) {
            mill.addNoise(noise % 8, 1, 1);
            if (noise % 2 == 0 || noise == count - 1) {
                mill.clearWheel(0);
                mill.advance(1);
            }
        }
        return mill;
    }

    /** Has wheel 0, which must hold no noise, grind a new noise whole; it is cleared before each step. */
    static void grind(NoiseMill mill, int band, int amount) {
        int noise = mill.addNoise(band, 9, amount);
        for (int steps = 0; steps < 60 && mill.exists(noise); steps++) {
            mill.clearWheel(0);
            mill.advance(1);
        }
    }

    /** A mill with some flour of grade 0, made of band 0 with mesh 0, and with gear 5 on wheel 0. */
    static NoiseMill withFlour(int grains) {
        NoiseMill mill = new NoiseMill();
        mill.setMesh(0, 0);
        mill.setGear(0, 5);
        for (int left = grains; left > 0; left -= 60) {
            grind(mill, 0, Math.min(left, 60));
        }
        mill.clearWheel(0);
        return mill;
    }
}
