import java.util.ArrayDeque;
import java.util.ArrayList;
import java.util.Comparator;
import java.util.Deque;
import java.util.List;
import java.util.NoSuchElementException;
import java.util.Objects;
import java.util.TreeMap;
import java.util.regex.Matcher;
import java.util.regex.Pattern;

/**
 * The document once more, written with the Java library and in another way than the program, so that
 * the two can be compared: immutable noises, copied maps, one account of every grain.
 */
final class Model {
    private static final String COMMAND = "(?:noise [0-9] [0-9] [0-9][0-9]?|drop [0-9][0-9]?|gear [0-9] [0-9]"
        + "|mesh [0-9] [0-9]|clear [0-9]|release [0-9]|ship [0-9] [0-9]|step(?: [0-9][0-9]?)?)";
    private static final Pattern SCRIPT = Pattern.compile(COMMAND + "(?:;" + COMMAND + ")*");

    private record Noise(int number, int band, int loudness, int amount) {
    }

    private record Done(int number, int wheel, int time) {
    }

    /** What became of some ground grains: grade 0 to 3 for sacked, 4 for sieved, 5 for want of room. */
    private record Grains(int band, int fate, int count) {
    }

    private static final class State {
        TreeMap<Integer, Noise> waiting = new TreeMap<>();
        TreeMap<Integer, Noise> held = new TreeMap<>();
        List<Integer> gears = new ArrayList<>(List.of(1, 1, 1));
        List<Integer> wears = new ArrayList<>(List.of(0, 0, 0));
        List<Integer> meshes = new ArrayList<>(List.of(3, 3, 3, 3, 3, 3, 3, 3));
        List<Integer> shipped = new ArrayList<>(List.of(0, 0, 0, 0));
        List<Grains> account = new ArrayList<>();
        List<Done> done = new ArrayList<>();
        int added = 0;
        int time = 0;

        State copy() {
            State copy = new State();
            copy.waiting = new TreeMap<>(waiting);
            copy.held = new TreeMap<>(held);
            copy.gears = new ArrayList<>(gears);
            copy.wears = new ArrayList<>(wears);
            copy.meshes = new ArrayList<>(meshes);
            copy.shipped = new ArrayList<>(shipped);
            copy.account = new ArrayList<>(account);
            copy.done = new ArrayList<>(done);
            copy.added = added;
            copy.time = time;
            return copy;
        }

        int sum(Integer band, Integer fate) {
            return account.stream().filter(grains -> band == null || grains.band == band)
                .filter(grains -> fate == null || grains.fate == fate).mapToInt(Grains::count).sum();
        }

        int inMill(int grade) {
            return sum(null, grade) - 20 * shipped.get(grade);
        }

        List<Noise> order() {
            List<Noise> list = new ArrayList<>(waiting.values());
            list.sort(Comparator.comparing(Noise::loudness).reversed().thenComparing(Noise::number));
            return list;
        }

        int steps(int count) {
            int ground = 0;
            for (int passed = 0; passed < count; passed++) {
                time++;
                for (int wheel = 0; wheel < 3; wheel++) {
                    ground += act(wheel);
                }
            }
            return ground;
        }

        private int act(int wheel) {
            if (wears.get(wheel) >= 12) {
                return 0;
            }
            if (!held.containsKey(wheel) && !waiting.isEmpty()) {
                held.put(wheel, waiting.remove(order().get(0).number));
            }
            Noise noise = held.get(wheel);
            if (noise == null) {
                return 0;
            }
            int count = Math.min(noise.amount, 2 * gears.get(wheel));
            wears.set(wheel, wears.get(wheel) + gears.get(wheel));
            int left = noise.amount - count;
            if (left == 0) {
                held.remove(wheel);
                done.add(0, new Done(noise.number, wheel, time));
            } else {
                held.put(wheel, new Noise(noise.number, noise.band, noise.loudness, left));
            }
            int mesh = meshes.get(noise.band);
            for (int grain = 0; grain < count; grain++) {
                boolean sieved = grain < count * mesh / 10;
                int fate = sieved ? 4 : inMill(mesh / 3) < 139 ? mesh / 3 : 5;
                account.add(new Grains(noise.band, fate, 1));
            }
            return count;
        }
    }

    private State now = new State();
    private State snapshot = null;
    private final Deque<State> past = new ArrayDeque<>();
    private String buffer = "";
    private String output = "";
    private int error = -1;
    private int failed = -1;

    private void change() {
        past.push(now.copy());
        if (past.size() > 8) {
            past.removeLast();
        }
    }

    private static void argument(boolean right) {
        if (!right) {
            throw new IllegalArgumentException();
        }
    }

    private static void state(boolean right) {
        if (!right) {
            throw new IllegalStateException();
        }
    }

    private static void element(boolean right) {
        if (!right) {
            throw new NoSuchElementException();
        }
    }

    private static void index(boolean right) {
        if (!right) {
            throw new IndexOutOfBoundsException();
        }
    }

    private static boolean in(int value, int least, int most) {
        return least <= value && value <= most;
    }

    public int addNoise(int band, int loudness, int amount) {
        argument(in(band, 0, 7) && in(loudness, 1, 9) && in(amount, 1, 60));
        state(now.waiting.size() < 12);
        change();
        now.waiting.put(now.added, new Noise(now.added, band, loudness, amount));
        return now.added++;
    }

    public int removeNoise(int noise) {
        element(exists(noise));
        state(now.waiting.containsKey(noise));
        change();
        return now.waiting.remove(noise).amount;
    }

    public int setGear(int wheel, int gear) {
        index(in(wheel, 0, 2));
        argument(in(gear, 1, 5));
        change();
        return now.gears.set(wheel, gear);
    }

    public int setMesh(int band, int mesh) {
        argument(in(band, 0, 7) && in(mesh, 0, 9));
        change();
        return now.meshes.set(band, mesh);
    }

    public int clearWheel(int wheel) {
        index(in(wheel, 0, 2));
        change();
        return now.wears.set(wheel, 0);
    }

    public int releaseNoise(int wheel) {
        index(in(wheel, 0, 2));
        element(now.held.containsKey(wheel));
        state(now.waiting.size() < 12);
        change();
        Noise noise = now.held.remove(wheel);
        now.waiting.put(noise.number, noise);
        return noise.number;
    }

    public int shipSacks(int grade, int sacks) {
        argument(in(grade, 0, 3) && in(sacks, 1, 6));
        if (now.inMill(grade) / 20 < sacks) {
            throw new UnsupportedOperationException();
        }
        change();
        now.shipped.set(grade, now.shipped.get(grade) + sacks);
        return now.inMill(grade) / 20;
    }

    public int advance(int steps) {
        argument(in(steps, 1, 40));
        change();
        return now.steps(steps);
    }

    public int time() {
        return now.time;
    }

    public int waitingCount() {
        return now.waiting.size();
    }

    public int waitingAt(int rank) {
        element(in(rank, 0, now.waiting.size() - 1));
        return now.order().get(rank).number;
    }

    public int rankOf(int noise) {
        element(exists(noise));
        state(now.waiting.containsKey(noise));
        return now.order().indexOf(now.waiting.get(noise));
    }

    private Noise find(int number) {
        Noise noise = now.waiting.get(number);
        for (Noise other : now.held.values()) {
            noise = other.number == number ? other : noise;
        }
        element(noise != null);
        return Objects.requireNonNull(noise);
    }

    public boolean exists(int noise) {
        return now.waiting.containsKey(noise) || now.held.values().stream().anyMatch(one -> one.number == noise);
    }

    public int band(int noise) {
        return find(noise).band;
    }

    public int loudness(int noise) {
        return find(noise).loudness;
    }

    public int amount(int noise) {
        return find(noise).amount;
    }

    public boolean isWaiting(int noise) {
        return now.waiting.containsValue(find(noise));
    }

    public int wheelOf(int noise) {
        find(noise);
        for (int wheel : now.held.keySet()) {
            if (now.held.get(wheel).number == noise) {
                return wheel;
            }
        }
        throw new NoSuchElementException();
    }

    public int noiseOn(int wheel) {
        index(in(wheel, 0, 2));
        element(now.held.containsKey(wheel));
        return now.held.get(wheel).number;
    }

    public int gear(int wheel) {
        index(in(wheel, 0, 2));
        return now.gears.get(wheel);
    }

    public int wear(int wheel) {
        index(in(wheel, 0, 2));
        return now.wears.get(wheel);
    }

    public boolean isJammed(int wheel) {
        return wear(wheel) >= 12;
    }

    public int mesh(int band) {
        argument(in(band, 0, 7));
        return now.meshes.get(band);
    }

    public boolean isBandGround(int band) {
        argument(in(band, 0, 7));
        return now.sum(band, null) > 0;
    }

    public int groundBands() {
        return (int) now.account.stream().map(Grains::band).distinct().count();
    }

    public int flour(int grade) {
        argument(in(grade, 0, 3));
        return now.inMill(grade);
    }

    public int flourByRecords(int grade) {
        return flour(grade);
    }

    public int fullSacks(int grade) {
        return flour(grade) / 20;
    }

    public int openSack(int grade) {
        return flour(grade) % 20;
    }

    public int shippedSacks(int grade) {
        argument(in(grade, 0, 3));
        return now.shipped.get(grade);
    }

    public int recorded(int band, int grade) {
        argument(in(band, 0, 7) && in(grade, 0, 3));
        return now.sum(band, grade);
    }

    public int groundTotal() {
        return now.sum(null, null);
    }

    public int groundByParts() {
        return groundTotal();
    }

    public int lostInSieves() {
        return now.sum(null, 4);
    }

    public int lostForRoom() {
        return now.sum(null, 5);
    }

    public int stepsUntilDone(int wheel) {
        index(in(wheel, 0, 2));
        element(now.held.containsKey(wheel));
        int number = now.held.get(wheel).number;
        State later = now.copy();
        for (int steps = 1; steps <= 60; steps++) {
            later.steps(1);
            if (!later.done.isEmpty() && later.done.stream().anyMatch(done -> done.number == number)) {
                return steps;
            }
        }
        throw new NoSuchElementException();
    }

    public int stepsUntilDoneByRate(int wheel) {
        return stepsUntilDone(wheel);
    }

    public int stepsUntilJam(int wheel) {
        index(in(wheel, 0, 2));
        for (int steps = 0; steps <= 60; steps++) {
            State later = now.copy();
            later.steps(steps);
            if (later.wears.get(wheel) >= 12) {
                return steps;
            }
        }
        throw new NoSuchElementException();
    }

    public int groundWithin(int steps) {
        argument(in(steps, 0, 60));
        return now.copy().steps(steps);
    }

    public int doneCount() {
        return now.done.size();
    }

    private Done remembered(int recency) {
        element(in(recency, 0, Math.min(8, now.done.size()) - 1));
        return now.done.get(recency);
    }

    public int doneNumber(int recency) {
        return remembered(recency).number;
    }

    public int doneWheel(int recency) {
        return remembered(recency).wheel;
    }

    public int doneTime(int recency) {
        return remembered(recency).time;
    }

    public int wheelByWear(int rank) {
        element(in(rank, 0, 2));
        List<Integer> list = new ArrayList<>(List.of(0, 1, 2));
        list.sort(Comparator.comparing((Integer wheel) -> -now.wears.get(wheel))
            .thenComparing(wheel -> -now.gears.get(wheel)).thenComparing(wheel -> wheel));
        return list.get(rank);
    }

    public int bandByGrains(int rank) {
        element(in(rank, 0, 7));
        List<Integer> list = new ArrayList<>(List.of(0, 1, 2, 3, 4, 5, 6, 7));
        list.sort(Comparator.comparing((Integer band) -> now.sum(band, 4) + now.sum(band, 5) - now.sum(band, null))
            .thenComparing(band -> now.meshes.get(band)).thenComparing(band -> band));
        return list.get(rank);
    }

    public double meanLoudness() {
        if (now.waiting.isEmpty()) {
            throw new ArithmeticException();
        }
        return now.waiting.values().stream().mapToInt(Noise::loudness).average().orElseThrow();
    }

    public float lostShare() {
        if (groundTotal() == 0) {
            throw new ArithmeticException();
        }
        return (float) (lostInSieves() + lostForRoom()) / (float) groundTotal();
    }

    public boolean isConsistent() {
        return true;
    }

    public int renderWheel(int wheel) {
        index(in(wheel, 0, 2));
        Noise noise = now.held.get(wheel);
        output = wheel + "g" + gear(wheel) + "w" + wear(wheel) + (isJammed(wheel) ? "!" : "")
            + (noise == null ? ":-" : ":" + noise.number + "x" + noise.amount);
        return output.length();
    }

    public int renderSacks() {
        List<String> sacks = new ArrayList<>();
        for (int grade = 0; grade < 4; grade++) {
            sacks.add(fullSacks(grade) + "+" + openSack(grade));
        }
        output = String.join(" ", sacks);
        return output.length();
    }

    public char outputAt(int index) {
        index(in(index, 0, output.length() - 1));
        return output.charAt(index);
    }

    public int type(char character) {
        argument(in(character, 32, 126));
        state(buffer.length() < 60);
        buffer += character;
        return buffer.length();
    }

    public int runScript() {
        String script = buffer;
        buffer = "";
        if (!SCRIPT.matcher(script).matches()) {
            error = 0;
            while (error < script.length() && canContinue(script.substring(0, error + 1))) {
                error++;
            }
            throw new IllegalArgumentException();
        }
        State before = now.copy();
        List<State> pastBefore = new ArrayList<>(past);
        String[] commands = script.split(";");
        for (int command = 0; command < commands.length; command++) {
            try {
                run(commands[command].split(" "));
            } catch (RuntimeException e) {
                now = before;
                past.clear();
                past.addAll(pastBefore);
                failed = command;
                throw new IllegalStateException();
            }
        }
        State after = now;
        now = before;
        past.clear();
        past.addAll(pastBefore);
        change();
        now = after;
        return commands.length;
    }

    private static boolean canContinue(String start) {
        Matcher matcher = SCRIPT.matcher(start);
        return matcher.matches() || matcher.hitEnd();
    }

    private int run(String[] words) {
        int[] numbers = new int[3];
        for (int word = 1; word < words.length; word++) {
            numbers[word - 1] = Integer.parseInt(words[word]);
        }
        return switch (words[0]) {
            case "noise" -> addNoise(numbers[0], numbers[1], numbers[2]);
            case "drop" -> removeNoise(numbers[0]);
            case "gear" -> setGear(numbers[0], numbers[1]);
            case "mesh" -> setMesh(numbers[0], numbers[1]);
            case "clear" -> clearWheel(numbers[0]);
            case "release" -> releaseNoise(numbers[0]);
            case "ship" -> shipSacks(numbers[0], numbers[1]);
            default -> advance(words.length == 1 ? 1 : numbers[0]);
        };
    }

    public int errorPosition() {
        element(error >= 0);
        return error;
    }

    public int failedCommand() {
        element(failed >= 0);
        return failed;
    }

    public int undo() {
        state(!past.isEmpty());
        now = past.pop();
        return past.size();
    }

    public int save() {
        snapshot = now.copy();
        return now.waiting.size();
    }

    public int restore() {
        state(snapshot != null);
        now = snapshot.copy();
        past.clear();
        return now.waiting.size();
    }
}
