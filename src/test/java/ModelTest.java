import java.lang.reflect.Method;
import java.util.ArrayList;
import java.util.Arrays;
import java.util.Comparator;
import java.util.List;
import java.util.Random;

/** Random runs of calls on VacuumDesk and on PlainDesk, whose answers must be alike. */
public final class ModelTest {
    private static final String DEAR = " suspects probe until trip fed bears parts ";
    private static final int[] EDGES = {
        Integer.MIN_VALUE, -100, -2, -1, 0, 1, 2, 3, 4, 5, 6, 9, 10, 11, 12, 13, 16, 17, 19, 20, 39, 40, 41, 59, 60, 61, 64, 99, 100,
        999, 1000, 4999, 5000, 9998, 9999, 10000, 99_999_998, 99_999_999, 100_000_000, Integer.MAX_VALUE};

    private final Random random;
    private final List<Method> methods = new ArrayList<>();
    private final List<String> calls = new ArrayList<>();
    private VacuumDesk desk;
    private PlainDesk plain;
    int wrong;
    static final java.util.Map<String, java.util.Set<Long>> SEEN = new java.util.TreeMap<>();

    ModelTest(long seed) {
        random = new Random(seed);
        for (Method m : VacuumDesk.class.getDeclaredMethods())
            if (java.lang.reflect.Modifier.isPublic(m.getModifiers())) methods.add(m);
        methods.sort(Comparator.comparing(Method::getName));
    }

    private int upTo(int n) { return random.nextInt(n + 1); }

    private long call(String name, int... args) throws Exception {
        for (Method m : methods)
            if (m.getName().equals(name)) return call(m, args);
        throw new IllegalStateException(name);
    }

    private long call(Method m, int... args) throws Exception {
        Object[] boxed = Arrays.stream(args).boxed().toArray();
        long got = ((Number) m.invoke(desk, boxed)).longValue();
        Method other = PlainDesk.class.getMethod(m.getName(), m.getParameterTypes());
        long want = ((Number) other.invoke(plain, boxed)).longValue();
        String text = m.getName() + Arrays.toString(args).replace('[', '(').replace(']', ')');
        calls.add(text + " = " + got);
        if (got != want) {
            wrong++;
            if (wrong < 3) {
                System.out.println("the run: " + calls);
                System.out.println(text + " answered " + got + ", due is " + want);
            }
        }
        SEEN.computeIfAbsent(m.getName(), k -> new java.util.TreeSet<>()).add(got);
        return got;
    }

    /** An argument that mostly makes sense for the method. */
    private int[] argsFor(String name) {
        switch (name) {
            case "chamber": return new int[] {random.nextInt(4) == 0 ? 0 : upTo(99), random.nextInt(3) == 0 ? 0 : upTo(4999)};
            case "tube": {
                int two = random.nextInt(2) * upTo(12);
                return new int[] {upTo(4), upTo(4), 1 + upTo(11), two, two == 0 ? 0 : random.nextInt(2) * upTo(12)};
            }
            case "pump": return new int[] {upTo(4), 1 + upTo(39)};
            case "curve": {
                int what = upTo(5);
                int value = what < 3 ? (random.nextInt(3) == 0 ? 0 : upTo(40))
                    : 1 + upTo(random.nextBoolean() ? 30 : random.nextBoolean() ? 300 : 9998);
                return new int[] {upTo(2), what, what == 5 && random.nextInt(3) == 0 ? 0 : value};
            }
            case "set": {
                int what = upTo(2);
                return new int[] {upTo(4), what, upTo(what == 0 ? 99 : what == 1 ? 4999 : 9)};
            }
            case "turn": return new int[] {upTo(9)};
            case "run": case "stage": return new int[] {upTo(2)};
            case "leak": return new int[] {joint(), upTo(60)};
            case "watch": {
                int condition = upTo(2);
                int n = condition == 2 ? upTo(60) : level();
                return new int[] {condition, upTo(5), n, upTo(4), upTo(random.nextBoolean() ? 2 : 9)};
            }
            case "drop": return new int[] {upTo(5)};
            case "steps": return new int[] {1 + upTo(random.nextInt(4) == 0 ? 39 : 4)};
            case "note": return new int[] {upTo(4), random.nextInt(3) == 0 ? -1 : level()};
            case "image": case "back": case "valve": case "probe": case "trip": return new int[] {upTo(1)};
            case "pressure": case "log": return new int[] {upTo(4), name.equals("log") ? upTo(42) : upTo(1)};
            case "reading": return new int[] {upTo(4)};
            case "flow": return new int[] {upTo(9), upTo(1)};
            case "drawn": return new int[] {upTo(2), upTo(1)};
            case "between": case "parts": return new int[] {upTo(4), upTo(4), upTo(1)};
            case "reduced": return new int[] {upTo(4), upTo(4), upTo(2)};
            case "suspects": return new int[] {upTo(4)};
            case "place": return new int[] {1 + upTo(39)};
            case "hottest": case "until": return new int[] {level()};
            case "fed": return new int[] {upTo(4), level()};
            case "bears": return new int[] {joint(), level()};
            case "tried": return new int[] {joint(), upTo(60), upTo(4)};
            case "helped": return new int[] {upTo(4), 1 + upTo(39), upTo(4)};
            case "ofChamber": return new int[] {upTo(4), upTo(6)};
            case "ofTube": return new int[] {upTo(9), upTo(3)};
            case "ofPump": return new int[] {upTo(2), upTo(8)};
            case "ofWatch": return new int[] {upTo(5), upTo(5)};
            case "count": return new int[] {upTo(16)};
            default: return new int[0];
        }
    }

    private int joint() { return random.nextInt(3) == 0 ? upTo(4) : 10 + upTo(9); }

    /** A reading near one that there is, or any. */
    private int level() {
        if (random.nextInt(3) != 0) {
            int near = desk.reading(upTo(4));
            if (near >= 0) return Math.max(0, Math.min(99_999_999, near + upTo(2) - 1));
        }
        return upTo(random.nextBoolean() ? 3_000 : random.nextBoolean() ? 300_000 : 99_999_999);
    }

    private void oneCall(boolean wild) throws Exception {
        Method m = methods.get(random.nextInt(methods.size()));
        if (DEAR.contains(" " + m.getName() + " ") && random.nextInt(3) != 0) return;
        int[] args = argsFor(m.getName());
        if (wild || random.nextInt(12) == 0)
            for (int i = 0; i < args.length; i++)
                if (random.nextInt(2) == 0) args[i] = EDGES[random.nextInt(EDGES.length)];
        call(m, args);
    }

    private void build(int chambers, int tubes, int pumps) throws Exception {
        for (int i = 0; i < chambers; i++) call("chamber", argsFor("chamber"));
        for (int i = 0; i < tubes; i++) call("tube", argsFor("tube"));
        for (int i = 0; i < pumps; i++) call("pump", argsFor("pump"));
        for (int i = 0; i < pumps * 5; i++) call("curve", argsFor("curve"));
        // bounds near the pressures there are make pumps hunt and change their stages
        for (int i = 0; i < pumps && random.nextBoolean(); i++) {
            int at = desk.ofPump(i, 0);
            int p = desk.reading(at) / 1000;
            call("curve", i, 3, Math.max(1, Math.min(9998, p + upTo(4) - 2)));
            call("curve", i, 4, Math.max(1, Math.min(9999, p + upTo(4))));
        }
        for (int i = 0; i < chambers; i++) if (random.nextBoolean()) call("set", i, 2, upTo(9));
    }

    void oneRun(int length) throws Exception {
        desk = new VacuumDesk();
        plain = new PlainDesk();
        calls.clear();
        if (random.nextInt(10) != 0) build(1 + upTo(4), upTo(10), upTo(3));
        boolean wild = random.nextInt(10) == 0;
        for (int i = 0; i < length && wrong == 0; i++) {
            oneCall(wild);
            if (random.nextInt(6) == 0) {
                for (int c = 0; c < 5; c++) call("reading", c);
                call("status");
                call("count", upTo(16));
            }
            if (random.nextInt(25) == 0) seekKnownLeak();
            if (random.nextInt(15) == 0) aimedCalls();
        }
    }

    /** A line on which what is asked lies near what it answers, so that answers differ much. */
    void aimedRun() throws Exception {
        desk = new VacuumDesk();
        plain = new PlainDesk();
        calls.clear();
        int chambers = 1 + upTo(4);
        for (int i = 0; i < chambers; i++) call("chamber", upTo(20), upTo(4999));
        for (int i = 1; i < chambers; i++) call("tube", upTo(i - 1), i, 1 + upTo(11), upTo(12), 0);
        for (int i = upTo(9); i > 0; i--) call("tube", upTo(chambers - 1), upTo(chambers - 1), 1 + upTo(11), 0, 0);
        for (int i = upTo(2); i >= 0; i--) call("pump", upTo(chambers - 1), 1 + upTo(39));
        for (int i = 0; i < chambers; i++) call("set", i, 2, upTo(9));
        for (int p = 0; p < desk.count(2); p++) {
            int near = desk.reading(desk.ofPump(p, 0)) / 1000;
            call("curve", p, 4, Math.max(2, near + upTo(20)));
            call("curve", p, 3, Math.max(1, near - 10 + upTo(20)));
            call("curve", p, upTo(2), upTo(40));
            if (random.nextBoolean()) call("curve", p, 5, upTo(2 * near + 2));
        }
        for (int i = upTo(4); i > 0; i--) {
            int x = upTo(chambers - 1);
            int n = Math.max(0, desk.reading(x));
            n = (int) (n * (0.3 + random.nextDouble()));
            call("watch", upTo(2), x, Math.min(n, 99_999_999), upTo(4), upTo(random.nextBoolean() ? 1 : 4));
        }
        for (int i = 0; i < 8 && wrong == 0; i++) {
            aimedCalls();
            call("turn", upTo(9));
            aimedCalls();
            if (random.nextBoolean()) call("steps", 1 + upTo(9));
            call("run", upTo(2));
            if (random.nextInt(3) != 0) call("undo");
            if (random.nextBoolean()) call("leak", joint(), upTo(60));
            if (random.nextBoolean()) call("undo");
            if (random.nextInt(4) == 0) seekKnownLeak();
            for (int w = 0; w < 6; w++) call("ofWatch", w, 5);
            for (int p = 0; p < 3; p++) call("ofPump", p, 8);
            for (int c = 0; c < 5; c++) call("log", c, upTo(12));
        }
    }

    private void aimedCalls() throws Exception {
        int most = 0;
        for (int c = 0; c < 5; c++) if (desk.reading(c) < 99_999_999) most = Math.max(most, desk.reading(c));
        call("until", most * upTo(20) / 20);
        call("until", most * (18 + upTo(3)) / 20);
        call("trip", 0);
        call("trip", 1);
        call("fed", upTo(4), most * (8 + upTo(20)) / 16);
        call("bears", joint(), most * (8 + upTo(12)) / 16);
        call("hottest", most * (2 + upTo(12)) / 8);
        call("valve", 0);
        call("valve", 1);
        call("place", 1 + upTo(39));
        call("lookout");
        call("parts", argsFor("parts"));
        call("count", 12);
        call("stage", upTo(2));
    }

    /** Readings are noted with a leak there, then the leak goes: so there are few suspects. */
    private void seekKnownLeak() throws Exception {
        call("leak", joint(), 1 + upTo(59));
        call("noteAll");
        call("leak", 0, 0);
        if (random.nextBoolean()) call("note", upTo(4), -1);
        if (random.nextBoolean()) call("note", upTo(4), -1);
        for (int what = 0; what <= 4; what++) call("suspects", what);
        call("probe", 0);
        call("probe", 1);
    }

    /** The heaviest lines there can be: here numbers grow largest. */
    void heavyRun() throws Exception {
        desk = new VacuumDesk();
        plain = new PlainDesk();
        calls.clear();
        for (int i = 0; i < 5; i++) call("chamber", 90 + upTo(9), 4000 + upTo(999));
        for (int i = 0; i < 10; i++) {
            int a = upTo(4);
            call("tube", a, (a + 1 + upTo(3)) % 5, 9 + upTo(3), 0, 0);
        }
        for (int i = 0; i < 5; i++) call("set", i, 2, 9);
        call("leak", joint(), 59);
        for (int i = 0; i < 3; i++) call("pump", upTo(4), 1 + upTo(39));
        for (int i = 0; i < 3; i++)
            for (int what = 0; what < 3; what++) call("curve", i, what, random.nextBoolean() ? 40 : upTo(40));
        for (int c = 0; c < 5; c++) {
            call("pressure", c, 0);
            call("pressure", c, 1);
            call("helped", upTo(4), 30 + upTo(10), c);
        }
        for (int i = 0; i < 10; i++) {
            call("flow", i, 0);
            call("flow", i, 1);
            call("between", argsFor("between"));
            call("reduced", argsFor("reduced"));
        }
        for (int i = 0; i < 3; i++) {
            call("drawn", i, 0);
            call("drawn", i, 1);
        }
        call("place", 1 + upTo(39));
    }

    public static void main(String[] args) throws Exception {
        int runs = args.length > 0 ? Integer.parseInt(args[0]) : 50;
        long seed = args.length > 1 ? Long.parseLong(args[1]) : 1;
        int wrong = 0;
        for (int i = 0; i < runs && wrong == 0; i++) {
            ModelTest test = new ModelTest(seed * 1_000_003 + i);
            test.oneRun(150);
            for (int k = 0; k < 5 && test.wrong == 0; k++) test.heavyRun();
            for (int k = 0; k < 3 && test.wrong == 0; k++) test.aimedRun();
            if (test.wrong > 0) System.out.println("seed " + (seed * 1_000_003 + i));
            wrong += test.wrong;
        }
        if (args.length > 2)
            SEEN.forEach((name, values) -> System.out.println(name + ": " + values.size() + " answers, such as "
                + new ArrayList<>(values).subList(0, Math.min(12, values.size()))));
        System.out.println(wrong == 0 ? "ModelTest: " + runs + " runs alike" : "ModelTest: " + wrong + " answers differ");
        if (wrong != 0) System.exit(1);
    }
}
