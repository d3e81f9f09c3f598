import java.util.ArrayList;
import java.util.Arrays;
import java.util.List;

/**
 * Each reason for which a call is REFUSED, the first of several in the document's order, and that
 * a REFUSED call changes nothing but what is told of it: neither what is answered, nor what can be
 * undone, nor the images. Calls that only ask change nothing at all.
 */
public final class RefusalTest {
    private static int wrong;
    private static int refusals;

    private RefusalTest() {
    }

    private static void say(String fault) {
        wrong++;
        System.out.println("RefusalTest: " + fault);
    }

    /** All that can be asked, but for what is told of REFUSED calls. */
    private static List<Long> all(VacuumDesk x) {
        List<Long> seen = new ArrayList<>();
        for (int what = -1; what <= 12; what++) seen.add((long) x.count(what));
        for (int c = 0; c <= 5; c++) {
            seen.add((long) x.reading(c));
            for (int what = 0; what <= 7; what++) seen.add((long) x.ofChamber(c, what));
            for (int what = 0; what <= 1; what++) seen.add(x.pressure(c, what));
            for (int ago = 0; ago <= 40; ago++) seen.add((long) x.log(c, ago));
            seen.add((long) x.fed(c, 20000));
            for (int d = 0; d < 5; d++) pair(x, c, d, seen);
        }
        for (int t = 0; t <= 10; t++) {
            for (int what = 0; what <= 4; what++) seen.add((long) x.ofTube(t, what));
            for (int what = 0; what <= 1; what++) seen.add(x.flow(t, what));
        }
        for (int p = 0; p <= 3; p++) {
            for (int what = 0; what <= 9; what++) seen.add((long) x.ofPump(p, what));
            for (int what = 0; what <= 1; what++) seen.add(x.drawn(p, what));
            seen.add((long) x.stage(p));
        }
        for (int w = 0; w <= 6; w++) for (int what = 0; what <= 6; what++) seen.add((long) x.ofWatch(w, what));
        for (int joint = 0; joint <= 20; joint++) seen.add((long) x.bears(joint, 20000) * 100 + x.tried(joint, 7, 0));
        for (int what = 0; what <= 4; what++) seen.add((long) x.suspects(what));
        for (int what = 0; what <= 1; what++) seen.add(x.probe(what) + 100L * x.valve(what) + 100000000000L * x.trip(what));
        for (int n : new int[] {0, 500, 5000, 50000, 99999999}) seen.add(x.hottest(n) + 100L * x.until(n));
        seen.add((long) x.place(1) + 100L * x.place(40) + 10000L * x.lookout());
        return seen;
    }

    private static void pair(VacuumDesk x, int c, int d, List<Long> seen) {
        for (int what = 0; what <= 2; what++) {
            seen.add(x.between(c, d, what));
            seen.add(x.reduced(c, d, what));
            seen.add((long) x.parts(c, d, what));
        }
        seen.add((long) x.helped(c, 9, d));
    }

    private static VacuumDesk built(String... calls) {
        VacuumDesk desk = new VacuumDesk();
        for (String text : calls) Script.invoke(desk, text);
        return desk;
    }

    /** Both are asked all, then undone to the end and taken back to their images, and must be alike. */
    private static void mustBeAlike(String about, VacuumDesk one, VacuumDesk other) {
        for (int i = 0; i <= 10; i++) {
            if (!all(one).equals(all(other))) say(about + ": other answers after " + i + " undos");
            if (one.undo() != other.undo()) say(about + ": undo " + i + " differs");
        }
        for (int k = 0; k <= 1; k++) {
            if (one.back(k) != other.back(k)) say(about + ": back(" + k + ") differs");
            if (!all(one).equals(all(other))) say(about + ": other answers after back(" + k + ")");
        }
    }

    /** Rows "call = reason": each is asked of a line that stands, which must then be as before. */
    private static void refused(String about, String[] setup, String... rows) {
        VacuumDesk desk = built(setup);
        List<Long> before = all(desk);
        int[] told = new int[17];
        for (int what = 13; what <= 16; what++) told[what] = desk.count(what);
        for (String row : rows) {
            refusals++;
            int at = row.lastIndexOf('=');
            String text = row.substring(0, at).trim();
            int by = Integer.parseInt(row.substring(at + 1).trim());
            long got = Script.invoke(desk, text);
            told[by == -1 ? 13 : by == -2 ? 14 : by == -4 ? 15 : 16]++;
            if (got != by) say(about + ": " + text + " answered " + got + ", due is " + by);
            if (desk.status() != by) say(about + ": after " + text + " status is " + desk.status());
            for (int what = 13; what <= 16; what++)
                if (desk.count(what) != told[what]) say(about + ": after " + text + " count(" + what + ") is " + desk.count(what));
            if (!all(desk).equals(before)) say(about + ": " + text + " changed something");
        }
        mustBeAlike(about, desk, built(setup));
    }

    private static String[] joined(String[]... rows) {
        List<String> all = new ArrayList<>();
        for (String[] row : rows) all.addAll(Arrays.asList(row));
        return all.toArray(new String[0]);
    }

    private static String[] times(int many, String... calls) {
        String[] all = new String[many * calls.length];
        for (int i = 0; i < all.length; i++) all[i] = calls[i % calls.length];
        return all;
    }

    private static final String[] SMALL = joined(Script.THREE_IN_A_ROW, new String[] {
        "image(0)", "set(1, 2, 3)", "watch(0, 0, 9000, 0, 0)", "leak(10, 4)", "noteAll()", "steps(3)", "note(1, 7)", "curve(0, 5, 9)", "leak(1, 6)"});

    /** Five chambers, ten tubes, three pumps, six watches; chamber 1 weighs 120. */
    private static final String[] FULL = joined(
        new String[] {"chamber(9, 99)", "chamber(8, 640)", "chamber(7, 0)", "chamber(6, 0)", "chamber(5, 0)", "pump(0, 40)", "pump(0, 40)", "pump(1, 40)"},
        times(3, "tube(0, 1, 12, 0, 0)"), times(3, "tube(1, 2, 12, 0, 0)"), times(2, "tube(2, 3, 5, 5, 5)"),
        new String[] {"tube(1, 4, 8, 0, 0)", "tube(3, 4, 1, 0, 0)", "image(1)", "curve(0, 0, 36)", "curve(0, 1, 0)", "curve(0, 2, 0)", "set(1, 2, 5)",
            "steps(2)"},
        times(6, "watch(1, 4, 100, 0, 9)"));

    private static void numbers() {
        refused("-1", SMALL,
            "chamber(-1, 0) = -1", "chamber(100, 0) = -1", "chamber(0, -1) = -1", "chamber(0, 5000) = -1",
            "tube(0, 1, 0, 0, 0) = -1", "tube(0, 1, 13, 0, 0) = -1", "tube(0, 1, 1, 13, 0) = -1", "tube(0, 1, 1, -1, 0) = -1",
            "tube(0, 1, 1, 1, 13) = -1", "tube(0, 1, 1, 1, -1) = -1", "tube(0, 1, 1, 0, 1) = -1", "pump(0, 0) = -1", "pump(0, 41) = -1",
            "curve(0, -1, 1) = -1", "curve(0, 6, 1) = -1", "curve(0, 0, -1) = -1", "curve(0, 0, 41) = -1", "curve(0, 1, 41) = -1", "curve(0, 2, 41) = -1",
            "curve(0, 3, 0) = -1", "curve(0, 3, 10000) = -1", "curve(0, 4, 0) = -1", "curve(0, 4, 10000) = -1", "curve(0, 5, -1) = -1",
            "curve(0, 5, 10000) = -1", "set(0, -1, 0) = -1", "set(0, 3, 0) = -1", "set(0, 0, 100) = -1", "set(0, 1, 5000) = -1", "set(0, 2, 10) = -1",
            "set(0, 2, -1) = -1", "leak(0, -1) = -1", "leak(0, 61) = -1", "watch(3, 0, 0, 0, 0) = -1", "watch(-1, 0, 0, 0, 0) = -1",
            "watch(0, 10, 0, 0, 0) = -1", "watch(2, -1, 0, 0, 0) = -1", "watch(0, 0, -1, 0, 0) = -1", "watch(0, 0, 100000000, 0, 0) = -1",
            "watch(0, 0, 0, 5, 0) = -1", "watch(0, 0, 0, -1, 0) = -1", "watch(0, 0, 0, 0, 10) = -1", "watch(0, 0, 0, 0, -1) = -1", "steps(0) = -1",
            "steps(-1) = -1", "steps(41) = -1", "note(0, -2) = -1", "note(0, 100000000) = -1", "image(-1) = -1", "image(2) = -1", "back(-1) = -1",
            "back(2) = -1");
    }

    private static void noSuch() {
        refused("-2", SMALL,
            "tube(0, 3, 1, 0, 0) = -2", "tube(3, 0, 1, 0, 0) = -2", "tube(-1, 0, 1, 0, 0) = -2", "tube(0, -1, 1, 0, 0) = -2", "pump(3, 1) = -2",
            "pump(-1, 1) = -2", "curve(1, 0, 1) = -2", "curve(-1, 0, 1) = -2", "set(3, 0, 0) = -2", "set(-1, 0, 0) = -2", "turn(2) = -2", "turn(-1) = -2",
            "run(1) = -2", "run(-1) = -2", "leak(3, 1) = -2", "leak(-1, 1) = -2", "leak(9, 1) = -2", "leak(12, 1) = -2", "drop(1) = -2", "drop(-1) = -2",
            "note(3, 0) = -2", "note(-1, 0) = -2", "note(3, -1) = -2");
    }

    private static void byWhatStands() {
        refused("-4", SMALL, "tube(0, 0, 1, 0, 0) = -4", "tube(2, 2, 1, 0, 0) = -4", "curve(0, 3, 2) = -4", "curve(0, 3, 9999) = -4",
            "curve(0, 4, 1) = -4", "back(1) = -4");
        refused("-4, all speeds 0", joined(Script.THREE_IN_A_ROW, new String[] {"curve(0, 0, 0)", "curve(0, 1, 0)"}), "curve(0, 2, 0) = -4");
        refused("-4, hunting", joined(Script.HUNTING, new String[] {"note(0, 5)", "image(0)", "steps(3)"}), "noteAll() = -4", "back(1) = -4");
        refused("-4, nothing there", new String[0], "undo() = -4", "back(0) = -4", "back(1) = -4");
        refused("-4, nothing to undo", joined(SMALL, new String[] {"back(0)"}), "undo() = -4", "back(1) = -4");
        refused("-4, late", joined(SMALL, times(248, "steps(40)"), new String[] {"steps(39)", "image(1)"}), "steps(38) = -4", "steps(40) = -4");
        refused("-4, latest", joined(SMALL, times(249, "steps(40)"), new String[] {"steps(36)", "image(1)"}), "steps(1) = -4", "steps(40) = -4");
    }

    private static void noRoom() {
        refused("-5", FULL, "chamber(0, 0) = -5", "chamber(99, 4999) = -5", "tube(3, 4, 1, 0, 0) = -5", "tube(0, 1, 12, 12, 12) = -5", "pump(4, 1) = -5",
            "pump(1, 40) = -5", "watch(0, 0, 0, 0, 0) = -5", "watch(2, 9, 99999999, 4, 9) = -5");
        String[] heavy = {"chamber(1, 0)", "chamber(0, 0)", "pump(0, 40)", "pump(0, 40)", "tube(0, 1, 12, 0, 0)", "tube(0, 1, 12, 0, 0)",
            "tube(0, 1, 12, 0, 0)", "curve(1, 0, 9)", "curve(1, 1, 9)", "curve(1, 2, 9)", "tube(0, 1, 12, 0, 0)", "tube(0, 1, 12, 0, 0)",
            "tube(0, 1, 6, 0, 0)", "image(0)"};
        refused("-5, weight", heavy, "tube(0, 1, 6, 0, 0) = -5", "tube(1, 0, 6, 0, 0) = -5", "pump(0, 6) = -5", "curve(1, 0, 15) = -5",
            "curve(1, 1, 15) = -5", "curve(1, 2, 40) = -5");
    }

    /** Of several reasons the first: -1, then -2, then -4, then -5. */
    private static void order() {
        refused("-1 ahead of -2", SMALL, "tube(3, 9, 0, 0, 0) = -1", "tube(-1, 0, 13, 0, 0) = -1", "pump(3, 0) = -1", "pump(-1, 41) = -1",
            "curve(1, 6, 0) = -1", "curve(1, 0, 41) = -1", "curve(-1, 3, 0) = -1", "set(3, 3, 0) = -1", "set(-1, 0, 100) = -1", "leak(3, 61) = -1",
            "leak(-1, -1) = -1", "note(3, -2) = -1", "note(-1, 100000000) = -1");
        refused("-1 ahead of -4", SMALL, "tube(0, 0, 0, 0, 0) = -1", "tube(1, 1, 1, 0, 1) = -1", "curve(0, 3, 10000) = -1", "curve(0, 4, 0) = -1",
            "back(2) = -1");
        refused("-1 ahead of -4, all speeds 0", joined(Script.THREE_IN_A_ROW, new String[] {"curve(0, 0, 0)", "curve(0, 1, 0)"}), "curve(0, 2, -1) = -1");
        refused("-1 ahead of -4, late", joined(times(249, "steps(40)"), new String[] {"steps(39)"}), "steps(0) = -1", "steps(41) = -1", "steps(1) = -4");
        refused("-1 ahead of -5", FULL, "chamber(100, 0) = -1", "chamber(0, 5000) = -1", "tube(0, 1, 0, 0, 0) = -1", "pump(0, 0) = -1", "pump(0, 41) = -1",
            "curve(0, 0, 41) = -1", "watch(3, 0, 0, 0, 0) = -1", "watch(0, 0, 0, 0, 10) = -1");
        refused("-2 ahead of -4", SMALL, "tube(3, 3, 1, 0, 0) = -2", "tube(-1, -1, 1, 0, 0) = -2", "curve(1, 4, 1) = -2", "curve(-1, 3, 9999) = -2");
        refused("-2 ahead of -5", FULL, "tube(0, 5, 1, 0, 0) = -2", "tube(-1, 0, 12, 0, 0) = -2", "pump(5, 40) = -2", "pump(-1, 1) = -2", "curve(3, 0, 40) = -2");
        refused("-4 ahead of -5", FULL, "tube(0, 0, 12, 0, 0) = -4", "tube(4, 4, 1, 0, 0) = -4");
        refused("all of them", FULL, "tube(9, 9, 0, 0, 0) = -1", "tube(9, 9, 1, 0, 0) = -2", "tube(1, 1, 1, 0, 0) = -4", "tube(0, 1, 1, 0, 0) = -5");
    }

    /** One desk is asked everything after each act, the other never. */
    private static void asksChangeNothing(String about, String[] acts) {
        VacuumDesk asked = new VacuumDesk();
        VacuumDesk quiet = new VacuumDesk();
        for (String act : acts) {
            if (Script.invoke(asked, act) != Script.invoke(quiet, act)) say(about + ": " + act + " differs once all has been asked");
            int status = asked.status();
            int refused = asked.count(13) + asked.count(14) + asked.count(15) + asked.count(16);
            if (!all(asked).equals(all(asked))) say(about + ": asked twice after " + act + " it answers otherwise");
            if (asked.status() != status || asked.count(13) + asked.count(14) + asked.count(15) + asked.count(16) != refused)
                say(about + ": asking is told of as REFUSED after " + act);
        }
        mustBeAlike(about, asked, quiet);
    }

    public static void main(String[] args) {
        numbers();
        noSuch();
        byWhatStands();
        noRoom();
        order();
        asksChangeNothing("small", SMALL);
        asksChangeNothing("full", FULL);
        asksChangeNothing("hunting", joined(Script.HUNTING, new String[] {"steps(2)", "image(1)", "turn(0)", "set(0, 0, 20)", "steps(1)"}));
        System.out.println("RefusalTest: " + refusals + " calls refused, " + wrong + " wrong");
        if (wrong != 0) System.exit(1);
    }
}
