import java.lang.reflect.Constructor;
import java.lang.reflect.Field;
import java.lang.reflect.Method;
import java.lang.reflect.Modifier;
import java.nio.file.Files;
import java.nio.file.Path;
import java.util.Arrays;
import java.util.Set;
import java.util.TreeSet;

/** The face of the class, and the rules of LANGUAGE.md that a look at the text or the class can tell. */
public final class FaceTest {
    private static final String FACE = "int addNoise(int,int,int);int removeNoise(int);int setGear(int,int);"
        + "int setMesh(int,int);int clearWheel(int);int releaseNoise(int);int shipSacks(int,int);int advance(int);"
        + "int time();int waitingCount();int waitingAt(int);int rankOf(int);boolean exists(int);int band(int);"
        + "int loudness(int);int amount(int);boolean isWaiting(int);int wheelOf(int);int noiseOn(int);int gear(int);"
        + "int wear(int);boolean isJammed(int);int mesh(int);boolean isBandGround(int);int groundBands();"
        + "int flour(int);int flourByRecords(int);int fullSacks(int);int openSack(int);int shippedSacks(int);"
        + "int recorded(int,int);int groundTotal();int groundByParts();int lostInSieves();int lostForRoom();"
        + "int stepsUntilDone(int);int stepsUntilDoneByRate(int);int stepsUntilJam(int);int groundWithin(int);"
        + "int doneCount();int doneNumber(int);int doneWheel(int);int doneTime(int);int wheelByWear(int);"
        + "int bandByGrains(int);double meanLoudness();float lostShare();boolean isConsistent();"
        + "int renderWheel(int);int renderSacks();char outputAt(int);int type(char);int runScript();"
        + "int errorPosition();int failedCommand();int undo();int save();int restore()";

    private FaceTest() {
    }

    public static void main(String[] args) throws Exception {
        Checks checks = new Checks();
        face(checks);
        classesInside(checks);
        text(checks);
        checks.end();
    }

    private static void face(Checks checks) {
        Set<String> due = new TreeSet<>(Arrays.asList(FACE.split(";")));
        Set<String> got = new TreeSet<>();
        Set<String> hidden = new TreeSet<>();
        for (Method method : NoiseMill.class.getDeclaredMethods()) {
            if (Modifier.isPrivate(method.getModifiers())) {
                hidden.add(method.getName());
                continue;
            }
            checks.equal("modifiers of " + method, method.getModifiers(), Modifier.PUBLIC);
            got.add(signature(method));
        }
        checks.equal("public methods", got, due);
        checks.equal("number of public methods", got.size(), 58);
        for (String method : got) {
            String name = method.substring(method.indexOf(' ') + 1, method.indexOf('('));
            checks.holds("no private method is named " + name, !hidden.contains(name));
        }
        checks.equal("modifiers", NoiseMill.class.getModifiers(), Modifier.PUBLIC | Modifier.FINAL);
        checks.equal("package", NoiseMill.class.getPackageName(), "");
        Constructor<?>[] constructors = NoiseMill.class.getDeclaredConstructors();
        checks.equal("constructors", constructors.length, 1);
        checks.equal("constructor", constructors[0].toString(), "public NoiseMill()");
        for (Field field : NoiseMill.class.getDeclaredFields()) {
            checks.holds(field + " is private", Modifier.isPrivate(field.getModifiers()));
            checks.holds(field + " is no variable of the class",
                !Modifier.isStatic(field.getModifiers()) || Modifier.isFinal(field.getModifiers()));
        }
    }

    private static String signature(Method method) {
        StringBuilder text = new StringBuilder(method.getReturnType().getName());
        text.append(' ').append(method.getName()).append('(');
        for (Class<?> type : method.getParameterTypes()) {
            text.append(text.charAt(text.length() - 1) == '(' ? "" : ",").append(type.getName());
        }
        return text.append(')').toString();
    }

    private static void classesInside(Checks checks) {
        Class<?>[] inside = NoiseMill.class.getDeclaredClasses();
        checks.holds("at most 12 classes", inside.length < 12);
        for (Class<?> one : inside) {
            checks.holds(one + " is private or package-visible",
                !Modifier.isPublic(one.getModifiers()) && !Modifier.isProtected(one.getModifiers()));
            for (Field field : one.getDeclaredFields()) {
                checks.holds(field + " is no variable of the class",
                    !Modifier.isStatic(field.getModifiers()) || Modifier.isFinal(field.getModifiers()));
            }
        }
    }

    /** Words that LANGUAGE.md rules out wherever they stand outside comments and texts. */
    private static void text(Checks checks) throws Exception {
        String text = Files.readString(Path.of("src/main/java/NoiseMill.java"));
        String code = text.replaceAll("(?s)/\\*.*?\\*/|//[^\n]*", "").replaceAll("\"[^\"\n]*\"", "\"\"");
        String[] words = {"package ", "finally", "synchronized", "assert ", "::", "Exact(", "static {", "protected ",
            "System.out", "hashCode", "Object", "Throwable", "Exception e)", "Thread", "Random"};
        for (String word : words) {
            checks.holds("the code has no " + word, !code.contains(word));
        }
        for (String line : code.split("\n")) {
            checks.holds("no lambda: " + line, !line.contains("->") || line.trim().matches("(case|default).*"));
            checks.holds("no import but those of the list: " + line, !line.startsWith("import ")
                || line.matches("import java\\.util\\.(NoSuchElementException|ArrayList|List|Iterator|Arrays|\\*);"));
        }
    }
}
