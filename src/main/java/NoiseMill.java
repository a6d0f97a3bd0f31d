import java.util.NoSuchElementException;

/** A mill that grinds noises into flour. What each method promises stands in ../shared/DOC.md. */
public final class NoiseMill {
    private static final int BANDS = 8;
    private static final int MAX_LOUDNESS = 9;
    private static final int MAX_AMOUNT = 60;
    private static final int MAX_WAITING = 12;
    private static final int WHEELS = 3;
    private static final int MAX_GEAR = 5;
    private static final int GRAINS_PER_GEAR = 2;
    private static final int JAM_WEAR = 12;
    private static final int MAX_MESH = 9;
    private static final int INITIAL_MESH = 3;
    private static final int MESHES_PER_GRADE = 3;
    private static final int MESH_UNIT = 10;
    private static final int GRADES = 4;
    private static final int SACK_GRAINS = 20;
    private static final int MAX_FLOUR = 139;
    private static final int MAX_SACKS = 6;
    private static final int MAX_ADVANCE = 40;
    private static final int HORIZON = 60;
    private static final int LOG_LENGTH = 8;
    private static final int UNDO_LENGTH = 8;
    private static final int SCRIPT_LENGTH = 60;
    /** The shortest command is "step", so 60 characters hold at most 12 of them with the signs between. */
    private static final int MAX_COMMANDS = 12;
    private static final int MAX_ARGUMENTS = 3;
    private static final int NONE = -1;
    private static final Kind[] KINDS = Kind.values();

    private final Mill now = new Mill();
    /** Where predictions and scripts are played through; made once, since every call would need one. */
    private final Mill trial = new Mill();
    private final Mill snapshot = new Mill();
    private boolean hasSnapshot = false;
    private final History past = new History();
    private final WaitingQueue queue = new WaitingQueue();
    private final Script script = new Script();
    private final StringBuilder output = new StringBuilder();
    private int latestErrorPosition = NONE;
    private int latestFailedCommand = NONE;

    public NoiseMill() {
    }

    // ---- changes

    public int addNoise(int band, int loudness, int amount) throws IllegalArgumentException, IllegalStateException {
        refuse(now.faultOfAdding(band, loudness, amount));
        past.push(now);
        return now.add(band, loudness, amount);
    }

    public int removeNoise(int noise) throws NoSuchElementException, IllegalStateException {
        refuse(now.faultOfRemoving(noise));
        past.push(now);
        return now.remove(noise);
    }

    public int setGear(int wheel, int gear) throws IndexOutOfBoundsException, IllegalArgumentException {
        refuse(Mill.faultOfGear(wheel, gear));
        past.push(now);
        return now.changeGear(wheel, gear);
    }

    public int setMesh(int band, int mesh) throws IllegalArgumentException {
        refuse(Mill.faultOfMesh(band, mesh));
        past.push(now);
        return now.changeMesh(band, mesh);
    }

    public int clearWheel(int wheel) throws IndexOutOfBoundsException {
        refuse(Mill.faultOfClearing(wheel));
        past.push(now);
        return now.clear(wheel);
    }

    public int releaseNoise(int wheel)
            throws IndexOutOfBoundsException, NoSuchElementException, IllegalStateException {
        refuse(now.faultOfReleasing(wheel));
        past.push(now);
        return now.release(wheel);
    }

    public int shipSacks(int grade, int sacks) throws IllegalArgumentException, UnsupportedOperationException {
        refuse(now.faultOfShipping(grade, sacks));
        past.push(now);
        return now.ship(grade, sacks);
    }

    public int advance(int steps) throws IllegalArgumentException {
        refuse(Mill.faultOfAdvancing(steps));
        past.push(now);
        return now.pass(steps);
    }

    // ---- noises

    public int time() {
        return now.clock;
    }

    public int waitingCount() {
        return now.noises.waiting;
    }

    public int waitingAt(int rank) throws NoSuchElementException {
        int slot = slotAtRank(rank);
        if (slot == NONE) {
            throw new NoSuchElementException("no such rank");
        }
        return now.noises.numbers[slot];
    }

    public int rankOf(int noise) throws NoSuchElementException, IllegalStateException {
        int slot = requireNoise(noise);
        if (!Noises.isWaitingSlot(slot)) {
            throw new IllegalStateException("the noise is on a wheel");
        }
        return now.noises.countBefore(slot);
    }

    public boolean exists(int noise) {
        return now.noises.slotOf(noise) != NONE;
    }

    public int band(int noise) throws NoSuchElementException {
        return now.noises.bands[requireNoise(noise)];
    }

    public int loudness(int noise) throws NoSuchElementException {
        return now.noises.loudnesses[requireNoise(noise)];
    }

    public int amount(int noise) throws NoSuchElementException {
        return now.noises.amounts[requireNoise(noise)];
    }

    public boolean isWaiting(int noise) throws NoSuchElementException {
        return Noises.isWaitingSlot(requireNoise(noise));
    }

    public int wheelOf(int noise) throws NoSuchElementException {
        int slot = requireNoise(noise);
        if (Noises.isWaitingSlot(slot)) {
            throw new NoSuchElementException("the noise waits");
        }
        return Noises.wheelOfSlot(slot);
    }

    // ---- wheels and sieves

    public int noiseOn(int wheel) throws IndexOutOfBoundsException, NoSuchElementException {
        requireWheel(wheel);
        if (!now.noises.isHeld(wheel)) {
            throw new NoSuchElementException("the wheel holds no noise");
        }
        return now.noises.numbers[Noises.slotOn(wheel)];
    }

    public int gear(int wheel) throws IndexOutOfBoundsException {
        requireWheel(wheel);
        return now.gears[wheel];
    }

    public int wear(int wheel) throws IndexOutOfBoundsException {
        requireWheel(wheel);
        return now.wears[wheel];
    }

    public boolean isJammed(int wheel) throws IndexOutOfBoundsException {
        requireWheel(wheel);
        return now.isStuck(wheel);
    }

    public int mesh(int band) throws IllegalArgumentException {
        requireBand(band);
        return now.meshes[band];
    }

    public boolean isBandGround(int band) throws IllegalArgumentException {
        requireBand(band);
        return now.store.bandsGround[band];
    }

    public int groundBands() {
        return now.store.countGroundBands();
    }

    // ---- sacks and records

    public int flour(int grade) throws IllegalArgumentException {
        requireGrade(grade);
        return now.store.grains[grade];
    }

    public int flourByRecords(int grade) throws IllegalArgumentException {
        requireGrade(grade);
        return now.store.recordedLessShipped(grade);
    }

    public int fullSacks(int grade) throws IllegalArgumentException {
        requireGrade(grade);
        return now.store.full(grade);
    }

    public int openSack(int grade) throws IllegalArgumentException {
        requireGrade(grade);
        return now.store.open(grade);
    }

    public int shippedSacks(int grade) throws IllegalArgumentException {
        requireGrade(grade);
        return now.store.shipped[grade];
    }

    public int recorded(int band, int grade) throws IllegalArgumentException {
        requireBand(band);
        requireGrade(grade);
        return now.store.records[Store.row(band, grade)];
    }

    public int groundTotal() {
        return now.store.ground;
    }

    public int groundByParts() {
        return now.store.recordedAndLost();
    }

    public int lostInSieves() {
        return now.store.sieved;
    }

    public int lostForRoom() {
        return now.store.spilt;
    }

    // ---- predictions

    public int stepsUntilDone(int wheel) throws IndexOutOfBoundsException, NoSuchElementException {
        requireWheel(wheel);
        return requireSteps(simulateDone(wheel));
    }

    public int stepsUntilDoneByRate(int wheel) throws IndexOutOfBoundsException, NoSuchElementException {
        requireWheel(wheel);
        return requireSteps(now.stepsByRate(wheel));
    }

    public int stepsUntilJam(int wheel) throws IndexOutOfBoundsException, NoSuchElementException {
        requireWheel(wheel);
        return requireSteps(simulateJam(wheel));
    }

    public int groundWithin(int steps) throws IllegalArgumentException {
        if (steps < 0 || steps > HORIZON) {
            throw new IllegalArgumentException("steps must be from 0 to 60");
        }
        trial.copyFrom(now);
        return trial.pass(steps);
    }

    // ---- log

    public int doneCount() {
        return now.log.count;
    }

    public int doneNumber(int recency) throws NoSuchElementException {
        return now.log.numbers[requireEntry(recency)];
    }

    public int doneWheel(int recency) throws NoSuchElementException {
        return now.log.wheels[requireEntry(recency)];
    }

    public int doneTime(int recency) throws NoSuchElementException {
        return now.log.times[requireEntry(recency)];
    }

    // ---- rankings, shares and the check

    public int wheelByWear(int rank) throws NoSuchElementException {
        for (int wheel = 0; wheel < WHEELS; wheel++) {
            if (now.countWheelsBefore(wheel) == rank) {
                return wheel;
            }
        }
        throw new NoSuchElementException("no such rank");
    }

    public int bandByGrains(int rank) throws NoSuchElementException {
        for (int band = 0; band < BANDS; band++) {
            if (now.countBandsBefore(band) == rank) {
                return band;
            }
        }
        throw new NoSuchElementException("no such rank");
    }

    public double meanLoudness() throws ArithmeticException {
        int count = now.noises.waiting;
        if (count <= 0) {
            throw new ArithmeticException("no noise waits");
        }
        return (double) now.noises.waitingLoudness() / (double) count;
    }

    public float lostShare() throws ArithmeticException {
        int ground = now.store.ground;
        if (ground <= 0) {
            throw new ArithmeticException("nothing was ground");
        }
        return (float) now.store.lost() / (float) ground;
    }

    public boolean isConsistent() {
        return now.store.ground == now.store.recordedAndLost()
                && flourAgrees() && predictionsAgree() && ranksAgree();
    }

    // ---- output

    public int renderWheel(int wheel) throws IndexOutOfBoundsException {
        requireWheel(wheel);
        output.setLength(0);
        output.append(wheel).append('g').append(now.gears[wheel]).append('w').append(now.wears[wheel]);
        if (now.isStuck(wheel)) {
            output.append('!');
        }
        output.append(':');
        if (now.noises.isHeld(wheel)) {
            int slot = Noises.slotOn(wheel);
            output.append(now.noises.numbers[slot]).append('x').append(now.noises.amounts[slot]);
        } else {
            output.append('-');
        }
        return output.length();
    }

    public int renderSacks() {
        output.setLength(0);
        for (int grade = 0; grade < GRADES; grade++) {
            if (grade > 0) {
                output.append(' ');
            }
            output.append(now.store.full(grade)).append('+').append(now.store.open(grade));
        }
        return output.length();
    }

    public char outputAt(int index) throws IndexOutOfBoundsException {
        if (index < 0 || index >= output.length()) {
            throw new IndexOutOfBoundsException("no such index");
        }
        return output.charAt(index);
    }

    // ---- scripts

    public int type(char character) throws IllegalArgumentException, IllegalStateException {
        if (character < 32 || character > 126) {
            throw new IllegalArgumentException("the character code must be from 32 to 126");
        }
        if (script.isFull()) {
            throw new IllegalStateException("the script buffer has 60 characters");
        }
        return script.append(character);
    }

    public int runScript() throws IllegalArgumentException, IllegalStateException {
        boolean wellFormed = script.parse();
        script.empty();
        if (!wellFormed) {
            latestErrorPosition = script.position;
            throw new IllegalArgumentException("the script does not have the required form");
        }
        int failed = tryCommands();
        if (failed != NONE) {
            latestFailedCommand = failed;
            throw new IllegalStateException("a command failed");
        }
        past.push(now);
        now.copyFrom(trial);
        return script.commandCount;
    }

    public int errorPosition() throws NoSuchElementException {
        if (latestErrorPosition == NONE) {
            throw new NoSuchElementException("there was no such script");
        }
        return latestErrorPosition;
    }

    public int failedCommand() throws NoSuchElementException {
        if (latestFailedCommand == NONE) {
            throw new NoSuchElementException("there was no such script");
        }
        return latestFailedCommand;
    }

    // ---- undo and snapshot

    public int undo() throws IllegalStateException {
        if (past.count <= 0) {
            throw new IllegalStateException("there is nothing to undo");
        }
        past.popInto(now);
        return past.count;
    }

    public int save() {
        snapshot.copyFrom(now);
        hasSnapshot = true;
        return now.noises.waiting;
    }

    public int restore() throws IllegalStateException {
        if (!hasSnapshot) {
            throw new IllegalStateException("there is no snapshot");
        }
        now.copyFrom(snapshot);
        past.forget();
        return now.noises.waiting;
    }

    // ---- what the methods above share

    private static void refuse(Fault fault) {
        switch (fault) {
            case ARGUMENT: throw new IllegalArgumentException("an argument is out of its range");
            case INDEX: throw new IndexOutOfBoundsException("no such wheel");
            case ELEMENT: throw new NoSuchElementException("no such noise");
            case STATE: throw new IllegalStateException("the state does not allow this");
            case UNSUPPORTED: throw new UnsupportedOperationException("there are fewer full sacks");
            default: break;
        }
    }

    private static void requireWheel(int wheel) {
        if (!Mill.isWheel(wheel)) {
            throw new IndexOutOfBoundsException("no such wheel");
        }
    }

    private static void requireBand(int band) {
        if (!Mill.isBand(band)) {
            throw new IllegalArgumentException("no such band");
        }
    }

    private static void requireGrade(int grade) {
        if (!Mill.isGrade(grade)) {
            throw new IllegalArgumentException("no such grade");
        }
    }

    /** Returns the slot of a noise. */
    private int requireNoise(int noise) {
        int slot = now.noises.slotOf(noise);
        if (slot == NONE) {
            throw new NoSuchElementException("no such noise");
        }
        return slot;
    }

    /** Returns the row of a remembered noise in the log. */
    private int requireEntry(int recency) {
        int row = now.log.rowOf(recency);
        if (row == NONE) {
            throw new NoSuchElementException("no such noise in the log");
        }
        return row;
    }

    private static int requireSteps(int steps) {
        if (steps == NONE) {
            throw new NoSuchElementException("this does not happen");
        }
        return steps;
    }

    /** Returns the slot of the waiting noise at a rank, or NONE. */
    private int slotAtRank(int rank) {
        if (rank < 0 || rank >= now.noises.waiting) {
            return NONE;
        }
        queue.fill(now.noises);
        for (int taken = 0; taken < rank; taken++) {
            queue.take(now.noises);
        }
        return queue.take(now.noises);
    }

    private int simulateDone(int wheel) {
        if (!now.noises.isHeld(wheel)) {
            return NONE;
        }
        trial.copyFrom(now);
        for (int steps = 1; steps <= HORIZON; steps++) {
            // A jammed wheel stays so, since no step clears it.
            if (trial.isStuck(wheel)) {
                return NONE;
            }
            trial.pass(1);
            if (!trial.noises.isHeld(wheel)) {
                return steps;
            }
        }
        return NONE;
    }

    private int simulateJam(int wheel) {
        trial.copyFrom(now);
        for (int steps = 0; steps <= HORIZON; steps++) {
            if (trial.isStuck(wheel)) {
                return steps;
            }
            trial.pass(1);
        }
        return NONE;
    }

    private boolean flourAgrees() {
        for (int grade = 0; grade < GRADES; grade++) {
            if (now.store.grains[grade] != now.store.recordedLessShipped(grade)) {
                return false;
            }
        }
        return true;
    }

    private boolean predictionsAgree() {
        for (int wheel = 0; wheel < WHEELS; wheel++) {
            if (simulateDone(wheel) != now.stepsByRate(wheel)) {
                return false;
            }
        }
        return true;
    }

    private boolean ranksAgree() {
        for (int rank = 0; rank < now.noises.waiting; rank++) {
            if (now.noises.countBefore(slotAtRank(rank)) != rank) {
                return false;
            }
        }
        return true;
    }

    /**
     * Plays the commands on the trial mill, so that a script that fails leaves the real one alone.
     * Returns the index of the command that failed, or NONE.
     */
    private int tryCommands() {
        trial.copyFrom(now);
        for (int index = 0; index < script.commandCount; index++) {
            Command command = script.commands[index];
            if (faultOfCommand(trial, command) != Fault.NO_FAULT) {
                return index;
            }
            perform(trial, command);
        }
        return NONE;
    }

    private static Fault faultOfCommand(Mill mill, Command command) {
        int first = command.arguments[0];
        int second = command.arguments[1];
        int third = command.arguments[2];
        switch (command.kind) {
            case NOISE: return mill.faultOfAdding(first, second, third);
            case DROP: return mill.faultOfRemoving(first);
            case GEAR: return Mill.faultOfGear(first, second);
            case MESH: return Mill.faultOfMesh(first, second);
            case CLEAR: return Mill.faultOfClearing(first);
            case RELEASE: return mill.faultOfReleasing(first);
            case SHIP: return mill.faultOfShipping(first, second);
            default: return Mill.faultOfAdvancing(first);
        }
    }

    private static int perform(Mill mill, Command command) {
        int first = command.arguments[0];
        int second = command.arguments[1];
        int third = command.arguments[2];
        switch (command.kind) {
            case NOISE: return mill.add(first, second, third);
            case DROP: return mill.remove(first);
            case GEAR: return mill.changeGear(first, second);
            case MESH: return mill.changeMesh(first, second);
            case CLEAR: return mill.clear(first);
            case RELEASE: return mill.release(first);
            case SHIP: return mill.ship(first, second);
            default: return mill.pass(first);
        }
    }

    /** Why a change is refused: told as a value, so that a script can ask without catching anything. */
    private enum Fault {
        NO_FAULT, INDEX, ARGUMENT, ELEMENT, STATE, UNSUPPORTED
    }

    /** The commands of the script language: word, then arguments of one digit, then perhaps a number. */
    private enum Kind {
        NOISE("noise", 2, true, true),
        DROP("drop", 0, true, true),
        GEAR("gear", 2, false, false),
        MESH("mesh", 2, false, false),
        CLEAR("clear", 1, false, false),
        RELEASE("release", 1, false, false),
        SHIP("ship", 2, false, false),
        STEP("step", 0, true, false);

        private final String word;
        private final int digits;
        private final boolean takesNumber;
        private final boolean needsNumber;

        Kind(String word, int digits, boolean takesNumber, boolean needsNumber) {
            this.word = word;
            this.digits = digits;
            this.takesNumber = takesNumber;
            this.needsNumber = needsNumber;
        }
    }

    private static final class Command {
        private Kind kind = Kind.STEP;
        private final int[] arguments = new int[MAX_ARGUMENTS];
    }

    /**
     * All that undo and the snapshot cover. The changes here trust their arguments: whoever calls one
     * has asked for its fault before.
     */
    private static final class Mill {
        private final Noises noises = new Noises();
        private final Store store = new Store();
        private final Log log = new Log();
        private final int[] gears = new int[WHEELS];
        private final int[] wears = new int[WHEELS];
        private final int[] meshes = new int[BANDS];
        private int clock = 0;

        Mill() {
            for (int wheel = 0; wheel < WHEELS; wheel++) {
                gears[wheel] = 1;
            }
            for (int band = 0; band < BANDS; band++) {
                meshes[band] = INITIAL_MESH;
            }
        }

        void copyFrom(Mill other) {
            noises.copyFrom(other.noises);
            store.copyFrom(other.store);
            log.copyFrom(other.log);
            System.arraycopy(other.gears, 0, gears, 0, WHEELS);
            System.arraycopy(other.wears, 0, wears, 0, WHEELS);
            System.arraycopy(other.meshes, 0, meshes, 0, BANDS);
            clock = other.clock;
        }

        static boolean isWheel(int wheel) {
            return wheel >= 0 && wheel < WHEELS;
        }

        static boolean isBand(int band) {
            return band >= 0 && band < BANDS;
        }

        static boolean isGrade(int grade) {
            return grade >= 0 && grade < GRADES;
        }

        static boolean isWithin(int value, int least, int most) {
            return value >= least && value <= most;
        }

        boolean isStuck(int wheel) {
            return wears[wheel] >= JAM_WEAR;
        }

        Fault faultOfAdding(int band, int loudness, int amount) {
            if (!isBand(band) || !isWithin(loudness, 1, MAX_LOUDNESS) || !isWithin(amount, 1, MAX_AMOUNT)) {
                return Fault.ARGUMENT;
            }
            return noises.isFull() ? Fault.STATE : Fault.NO_FAULT;
        }

        int add(int band, int loudness, int amount) {
            return noises.append(band, loudness, amount);
        }

        Fault faultOfRemoving(int noise) {
            int slot = noises.slotOf(noise);
            if (slot == NONE) {
                return Fault.ELEMENT;
            }
            return Noises.isWaitingSlot(slot) ? Fault.NO_FAULT : Fault.STATE;
        }

        int remove(int noise) {
            int slot = noises.slotOf(noise);
            if (slot == NONE) {
                return 0;
            }
            int amount = noises.amounts[slot];
            noises.removeWaiting(slot);
            return amount;
        }

        static Fault faultOfGear(int wheel, int gear) {
            if (!isWheel(wheel)) {
                return Fault.INDEX;
            }
            return isWithin(gear, 1, MAX_GEAR) ? Fault.NO_FAULT : Fault.ARGUMENT;
        }

        int changeGear(int wheel, int gear) {
            int before = gears[wheel];
            gears[wheel] = gear;
            return before;
        }

        static Fault faultOfMesh(int band, int mesh) {
            return isBand(band) && isWithin(mesh, 0, MAX_MESH) ? Fault.NO_FAULT : Fault.ARGUMENT;
        }

        int changeMesh(int band, int mesh) {
            int before = meshes[band];
            meshes[band] = mesh;
            return before;
        }

        static Fault faultOfClearing(int wheel) {
            return isWheel(wheel) ? Fault.NO_FAULT : Fault.INDEX;
        }

        int clear(int wheel) {
            int before = wears[wheel];
            wears[wheel] = 0;
            return before;
        }

        Fault faultOfReleasing(int wheel) {
            if (!isWheel(wheel)) {
                return Fault.INDEX;
            }
            if (!noises.isHeld(wheel)) {
                return Fault.ELEMENT;
            }
            return noises.isFull() ? Fault.STATE : Fault.NO_FAULT;
        }

        int release(int wheel) {
            return noises.putBack(wheel);
        }

        Fault faultOfShipping(int grade, int sacks) {
            if (!isGrade(grade) || !isWithin(sacks, 1, MAX_SACKS)) {
                return Fault.ARGUMENT;
            }
            return store.full(grade) < sacks ? Fault.UNSUPPORTED : Fault.NO_FAULT;
        }

        int ship(int grade, int sacks) {
            store.sendOff(grade, sacks);
            return store.full(grade);
        }

        static Fault faultOfAdvancing(int steps) {
            return isWithin(steps, 1, MAX_ADVANCE) ? Fault.NO_FAULT : Fault.ARGUMENT;
        }

        /** Lets steps pass and returns the grains that are ground in them. */
        int pass(int steps) {
            int grains = 0;
            for (int passed = 0; passed < steps; passed++) {
                clock++;
                for (int wheel = 0; wheel < WHEELS; wheel++) {
                    if (isStuck(wheel)) {
                        continue;
                    }
                    if (!noises.isHeld(wheel)) {
                        noises.takeFirst(wheel);
                    }
                    if (noises.isHeld(wheel)) {
                        grains += grind(wheel);
                    }
                }
            }
            return grains;
        }

        private int grind(int wheel) {
            int slot = Noises.slotOn(wheel);
            int band = noises.bands[slot];
            int grains = Math.min(GRAINS_PER_GEAR * gears[wheel], noises.amounts[slot]);
            noises.amounts[slot] -= grains;
            wears[wheel] += gears[wheel];
            store.receive(band, meshes[band], grains);
            if (noises.amounts[slot] == 0) {
                log.remember(noises.numbers[slot], wheel, clock);
                noises.leave(wheel);
            }
            return grains;
        }

        /** Returns after how many steps the noise on a wheel is done, or NONE. */
        int stepsByRate(int wheel) {
            int rate = GRAINS_PER_GEAR * gears[wheel];
            if (!noises.isHeld(wheel) || rate <= 0) {
                return NONE;
            }
            int steps = (noises.amounts[Noises.slotOn(wheel)] + rate - 1) / rate;
            int wearBeforeLast = wears[wheel] + (steps - 1) * gears[wheel];
            return wearBeforeLast < JAM_WEAR ? steps : NONE;
        }

        int countWheelsBefore(int wheel) {
            int count = 0;
            for (int other = 0; other < WHEELS; other++) {
                if (isWheelBefore(other, wheel)) {
                    count++;
                }
            }
            return count;
        }

        private boolean isWheelBefore(int wheel, int other) {
            if (wears[wheel] != wears[other]) {
                return wears[wheel] > wears[other];
            }
            if (gears[wheel] != gears[other]) {
                return gears[wheel] > gears[other];
            }
            return wheel < other;
        }

        int countBandsBefore(int band) {
            int count = 0;
            for (int other = 0; other < BANDS; other++) {
                if (isBandBefore(other, band)) {
                    count++;
                }
            }
            return count;
        }

        private boolean isBandBefore(int band, int other) {
            int grains = store.recordedOfBand(band);
            int otherGrains = store.recordedOfBand(other);
            if (grains != otherGrains) {
                return grains > otherGrains;
            }
            if (meshes[band] != meshes[other]) {
                return meshes[band] < meshes[other];
            }
            return band < other;
        }
    }

    /**
     * The noises that exist. The waiting ones stand in the slots from 0 on, without gaps and in no
     * order; behind them every wheel has a slot of its own.
     */
    private static final class Noises {
        private static final int SLOTS = MAX_WAITING + WHEELS;

        private final int[] numbers = new int[SLOTS];
        private final int[] bands = new int[SLOTS];
        private final int[] loudnesses = new int[SLOTS];
        private final int[] amounts = new int[SLOTS];
        private final boolean[] held = new boolean[WHEELS];
        private int waiting = 0;
        private int nextNumber = 0;

        void copyFrom(Noises other) {
            System.arraycopy(other.numbers, 0, numbers, 0, SLOTS);
            System.arraycopy(other.bands, 0, bands, 0, SLOTS);
            System.arraycopy(other.loudnesses, 0, loudnesses, 0, SLOTS);
            System.arraycopy(other.amounts, 0, amounts, 0, SLOTS);
            for (int wheel = 0; wheel < WHEELS; wheel++) {
                held[wheel] = other.held[wheel];
            }
            waiting = other.waiting;
            nextNumber = other.nextNumber;
        }

        static int slotOn(int wheel) {
            return MAX_WAITING + wheel;
        }

        static int wheelOfSlot(int slot) {
            return slot - MAX_WAITING;
        }

        static boolean isWaitingSlot(int slot) {
            return slot < MAX_WAITING;
        }

        boolean isHeld(int wheel) {
            return held[wheel];
        }

        boolean isFull() {
            return waiting >= MAX_WAITING;
        }

        int slotOf(int number) {
            for (int slot = 0; slot < waiting; slot++) {
                if (numbers[slot] == number) {
                    return slot;
                }
            }
            for (int wheel = 0; wheel < WHEELS; wheel++) {
                if (held[wheel] && numbers[slotOn(wheel)] == number) {
                    return slotOn(wheel);
                }
            }
            return NONE;
        }

        int append(int band, int loudness, int amount) {
            if (isFull()) {
                return NONE;
            }
            int number = nextNumber;
            numbers[waiting] = number;
            bands[waiting] = band;
            loudnesses[waiting] = loudness;
            amounts[waiting] = amount;
            waiting++;
            nextNumber++;
            return number;
        }

        void removeWaiting(int slot) {
            if (slot >= waiting) {
                return;
            }
            move(waiting - 1, slot);
            waiting--;
        }

        /** Lets a wheel take the first waiting noise, if there is one. */
        void takeFirst(int wheel) {
            int slot = firstWaiting();
            if (slot == NONE) {
                return;
            }
            move(slot, slotOn(wheel));
            held[wheel] = true;
            removeWaiting(slot);
        }

        int putBack(int wheel) {
            if (isFull()) {
                return NONE;
            }
            move(slotOn(wheel), waiting);
            held[wheel] = false;
            waiting++;
            return numbers[slotOn(wheel)];
        }

        void leave(int wheel) {
            held[wheel] = false;
        }

        private void move(int from, int to) {
            numbers[to] = numbers[from];
            bands[to] = bands[from];
            loudnesses[to] = loudnesses[from];
            amounts[to] = amounts[from];
        }

        private int firstWaiting() {
            int first = NONE;
            for (int slot = 0; slot < waiting; slot++) {
                if (first == NONE || isBefore(slot, first)) {
                    first = slot;
                }
            }
            return first;
        }

        boolean isBefore(int slot, int other) {
            if (loudnesses[slot] != loudnesses[other]) {
                return loudnesses[slot] > loudnesses[other];
            }
            return numbers[slot] < numbers[other];
        }

        int countBefore(int slot) {
            if (slot == NONE) {
                return NONE;
            }
            int count = 0;
            for (int other = 0; other < waiting; other++) {
                if (isBefore(other, slot)) {
                    count++;
                }
            }
            return count;
        }

        int waitingLoudness() {
            int sum = 0;
            for (int slot = 0; slot < waiting; slot++) {
                sum += loudnesses[slot];
            }
            return sum;
        }
    }

    /** A priority queue of the slots of waiting noises. */
    private static final class WaitingQueue {
        private final int[] slots = new int[MAX_WAITING];
        private int size = 0;

        void fill(Noises noises) {
            size = Math.min(noises.waiting, MAX_WAITING);
            for (int slot = 0; slot < size; slot++) {
                slots[slot] = slot;
            }
        }

        /** Takes the slot of the first noise out of the queue, or answers NONE. */
        int take(Noises noises) {
            if (size <= 0) {
                return NONE;
            }
            int first = 0;
            for (int at = 1; at < size; at++) {
                if (noises.isBefore(slots[at], slots[first])) {
                    first = at;
                }
            }
            int slot = slots[first];
            size--;
            slots[first] = slots[size];
            return slot;
        }
    }

    /** The flour in the mill, and the accounts of what was ground, lost and shipped so far. */
    private static final class Store {
        private static final int ROWS = BANDS * GRADES;

        private final int[] grains = new int[GRADES];
        private final int[] shipped = new int[GRADES];
        private final int[] records = new int[ROWS];
        private final boolean[] bandsGround = new boolean[BANDS];
        private int ground = 0;
        private int sieved = 0;
        private int spilt = 0;

        void copyFrom(Store other) {
            System.arraycopy(other.grains, 0, grains, 0, GRADES);
            System.arraycopy(other.shipped, 0, shipped, 0, GRADES);
            System.arraycopy(other.records, 0, records, 0, ROWS);
            for (int band = 0; band < BANDS; band++) {
                bandsGround[band] = other.bandsGround[band];
            }
            ground = other.ground;
            sieved = other.sieved;
            spilt = other.spilt;
        }

        static int row(int band, int grade) {
            return band * GRADES + grade;
        }

        /** Sieves and sacks grains that have just been ground. */
        void receive(int band, int mesh, int count) {
            int held = count * mesh / MESH_UNIT;
            int grade = mesh / MESHES_PER_GRADE;
            int sacked = Math.min(count - held, MAX_FLOUR - grains[grade]);
            ground += count;
            bandsGround[band] = true;
            sieved += held;
            spilt += count - held - sacked;
            grains[grade] += sacked;
            records[row(band, grade)] += sacked;
        }

        void sendOff(int grade, int sacks) {
            grains[grade] -= sacks * SACK_GRAINS;
            shipped[grade] += sacks;
        }

        int full(int grade) {
            return grains[grade] / SACK_GRAINS;
        }

        int open(int grade) {
            return grains[grade] % SACK_GRAINS;
        }

        int lost() {
            return sieved + spilt;
        }

        int countGroundBands() {
            int count = 0;
            for (int band = 0; band < BANDS; band++) {
                if (bandsGround[band]) {
                    count++;
                }
            }
            return count;
        }

        int recordedOfBand(int band) {
            int sum = 0;
            for (int grade = 0; grade < GRADES; grade++) {
                sum += records[row(band, grade)];
            }
            return sum;
        }

        int recordedLessShipped(int grade) {
            int sum = 0;
            for (int band = 0; band < BANDS; band++) {
                sum += records[row(band, grade)];
            }
            return sum - shipped[grade] * SACK_GRAINS;
        }

        int recordedAndLost() {
            int sum = lost();
            for (int row = 0; row < ROWS; row++) {
                sum += records[row];
            }
            return sum;
        }
    }

    /** The noises that were done: all are counted, the latest are remembered, in rows used in turn. */
    private static final class Log {
        private final int[] numbers = new int[LOG_LENGTH];
        private final int[] wheels = new int[LOG_LENGTH];
        private final int[] times = new int[LOG_LENGTH];
        private int count = 0;

        void copyFrom(Log other) {
            System.arraycopy(other.numbers, 0, numbers, 0, LOG_LENGTH);
            System.arraycopy(other.wheels, 0, wheels, 0, LOG_LENGTH);
            System.arraycopy(other.times, 0, times, 0, LOG_LENGTH);
            count = other.count;
        }

        void remember(int number, int wheel, int time) {
            int row = Math.floorMod(count, LOG_LENGTH);
            numbers[row] = number;
            wheels[row] = wheel;
            times[row] = time;
            count++;
        }

        int rowOf(int recency) {
            if (recency < 0 || recency >= LOG_LENGTH || recency >= count) {
                return NONE;
            }
            return Math.floorMod(count - 1 - recency, LOG_LENGTH);
        }
    }

    /** The states before the latest changes, in rows used in turn. */
    private static final class History {
        private final Mill[] states = new Mill[UNDO_LENGTH];
        private int next = 0;
        private int count = 0;

        History() {
            for (int row = 0; row < UNDO_LENGTH; row++) {
                states[row] = new Mill();
            }
        }

        void push(Mill state) {
            states[next].copyFrom(state);
            next = Math.floorMod(next + 1, UNDO_LENGTH);
            count = Math.min(count + 1, UNDO_LENGTH);
        }

        void popInto(Mill state) {
            next = Math.floorMod(next - 1, UNDO_LENGTH);
            state.copyFrom(states[next]);
            count--;
        }

        void forget() {
            count = 0;
        }
    }

    /** The script buffer and the commands that were read from it. */
    private static final class Script {
        private final char[] buffer = new char[SCRIPT_LENGTH];
        private int length = 0;
        /** The next character to read; where reading stopped, when the script lacks the form. */
        private int position = 0;
        private final Command[] commands = new Command[MAX_COMMANDS];
        private int commandCount = 0;

        Script() {
            for (int index = 0; index < MAX_COMMANDS; index++) {
                commands[index] = new Command();
            }
        }

        boolean isFull() {
            return length >= SCRIPT_LENGTH;
        }

        int append(char character) {
            if (!isFull()) {
                buffer[length] = character;
                length++;
            }
            return length;
        }

        void empty() {
            length = 0;
        }

        /** Returns whether the script has the form; if not, position is the error position. */
        boolean parse() {
            position = 0;
            commandCount = 0;
            for (int index = 0; index < MAX_COMMANDS; index++) {
                if (!readCommand(commands[index])) {
                    return false;
                }
                commandCount = index + 1;
                if (position >= length) {
                    return true;
                }
                if (!skip(';')) {
                    return false;
                }
            }
            return false;
        }

        private boolean readCommand(Command command) {
            Kind kind = readWord();
            if (kind == null) {
                return false;
            }
            command.kind = kind;
            for (int index = 0; index < kind.digits && index < MAX_ARGUMENTS; index++) {
                if (!skip(' ') || !isDigitNext()) {
                    return false;
                }
                command.arguments[index] = readDigit();
            }
            return !kind.takesNumber || readLastNumber(command, kind);
        }

        private boolean readLastNumber(Command command, Kind kind) {
            int index = kind.digits;
            if (index >= MAX_ARGUMENTS) {
                return false;
            }
            if (!skip(' ')) {
                command.arguments[index] = 1;
                return !kind.needsNumber;
            }
            if (!isDigitNext()) {
                return false;
            }
            int number = readDigit();
            if (isDigitNext()) {
                number = number * 10 + readDigit();
            }
            command.arguments[index] = number;
            return true;
        }

        /** Reads the word of a command, or the part of one that could still become a word. */
        private Kind readWord() {
            int farthest = 0;
            for (int index = 0; index < KINDS.length; index++) {
                Kind kind = KINDS[index];
                int matched = matchLength(kind.word);
                if (matched == kind.word.length()) {
                    position += matched;
                    return kind;
                }
                farthest = Math.max(farthest, matched);
            }
            position += farthest;
            return null;
        }

        private int matchLength(String word) {
            for (int index = 0; index < word.length(); index++) {
                int at = position + index;
                if (at >= length || buffer[at] != word.charAt(index)) {
                    return index;
                }
            }
            return word.length();
        }

        private boolean skip(char wanted) {
            if (position >= length || buffer[position] != wanted) {
                return false;
            }
            position++;
            return true;
        }

        private boolean isDigitNext() {
            return position < length && buffer[position] >= '0' && buffer[position] <= '9';
        }

        private int readDigit() {
            if (position >= length) {
                return 0;
            }
            int digit = buffer[position] - '0';
            position++;
            return digit;
        }
    }
}
