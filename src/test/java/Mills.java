/** What several tests do with mills. */
final class Mills {
    static final Class<IllegalArgumentException> ARGUMENT = IllegalArgumentException.class;
    static final Class<IllegalStateException> STATE = IllegalStateException.class;
    static final Class<IndexOutOfBoundsException> INDEX = IndexOutOfBoundsException.class;
    static final Class<java.util.NoSuchElementException> ELEMENT = java.util.NoSuchElementException.class;
    static final Class<UnsupportedOperationException> UNSUPPORTED = UnsupportedOperationException.class;
    static final Class<ArithmeticException> ARITHMETIC = ArithmeticException.class;

    static final int[] FAR_INTS = {Integer.MIN_VALUE, Integer.MIN_VALUE + 1, -1000, 1000, Integer.MAX_VALUE - 1,
        Integer.MAX_VALUE};

    private Mills() {
    }

    static void type(NoiseMill mill, String text) {
        for (char character : text.toCharArray()) {
            mill.type(character);
        }
    }

    static String output(NoiseMill mill, int length) {
        StringBuilder text = new StringBuilder();
        for (int index = 0; index < length; index++) {
            text.append(mill.outputAt(index));
        }
        return text.toString();
    }

    static String wheel(NoiseMill mill, int wheel) {
        return output(mill, mill.renderWheel(wheel));
    }

    static String sacks(NoiseMill mill) {
        return output(mill, mill.renderSacks());
    }

    static String order(NoiseMill mill) {
        StringBuilder text = new StringBuilder();
        for (int rank = 0; rank < mill.waitingCount(); rank++) {
            text.append(rank == 0 ? "" : " ").append(mill.waitingAt(rank));
        }
        return text.toString();
    }

    static String log(NoiseMill mill) {
        StringBuilder text = new StringBuilder();
        for (int recency = 0; recency < Math.min(8, mill.doneCount()); recency++) {
            text.append(recency == 0 ? "" : " ").append(mill.doneNumber(recency)).append('@')
                .append(mill.doneWheel(recency)).append('@').append(mill.doneTime(recency));
        }
        return text.toString();
    }

    /** Everything that undo and the snapshot cover, as a text; the output text is lost by it. */
    static String state(NoiseMill mill) {
        StringBuilder text = new StringBuilder();
        text.append(mill.time()).append('|').append(order(mill)).append('|');
        for (int noise = 0; noise < 600; noise++) {
            if (mill.exists(noise)) {
                text.append(noise).append(':').append(mill.band(noise)).append(',').append(mill.loudness(noise))
                    .append(',').append(mill.amount(noise)).append(mill.isWaiting(noise) ? "w " : "h ");
            }
        }
        for (int wheel = 0; wheel < 3; wheel++) {
            text.append('|').append(wheel(mill, wheel));
        }
        text.append('|').append(sacks(mill));
        for (int band = 0; band < 8; band++) {
            text.append('|').append(mill.mesh(band)).append(mill.isBandGround(band));
            for (int grade = 0; grade < 4; grade++) {
                text.append(',').append(mill.recorded(band, grade));
            }
        }
        for (int grade = 0; grade < 4; grade++) {
            text.append('|').append(mill.shippedSacks(grade));
        }
        text.append('|').append(mill.groundTotal()).append('|').append(mill.lostInSieves()).append('|')
            .append(mill.lostForRoom()).append('|').append(mill.doneCount()).append('|').append(log(mill));
        return text.toString();
    }

    /** A mill with 12 waiting noises, 0 to 11, of band 0, loudness 5 and amount 10. */
    static NoiseMill full() {
        NoiseMill mill = new NoiseMill();
        for (int count = 0; count < 12; count++) {
            mill.addNoise(0, 5, 10);
        }
        return mill;
    }

    /**
     * A mill whose flour of grade 0 is 139: wheel 0 has ground three noises of band 0, numbers 0 to 2,
     * of 60, 60 and 19 grains at gear 5 with mesh 0. It is empty and clear afterwards; the time is 14.
     */
    static NoiseMill brimful() {
        NoiseMill mill = new NoiseMill();
        mill.setMesh(0, 0);
        mill.setGear(0, 5);
        int[] amounts = {60, 60, 19};
        int[] steps = {6, 6, 2};
        for (int index = 0; index < amounts.length; index++) {
            mill.addNoise(0, 9, amounts[index]);
            for (int passed = 0; passed < steps[index]; passed++) {
                mill.advance(1);
                mill.clearWheel(0);
            }
        }
        return mill;
    }
}
