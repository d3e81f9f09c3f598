/** For each promise of the document ordinary calls, its edges, and wrong inputs. */
public final class PromisesTest {
    private static final Script S = new Script();

    private PromisesTest() {
    }

    private static void threeInARow(int promise) {
        S.fresh(promise, Script.THREE_IN_A_ROW);
    }

    private static void hunting(int promise) {
        S.fresh(promise, Script.HUNTING);
    }

    private static void bridge(int promise) {
        S.fresh(promise, Script.BRIDGE);
    }

    private static void newObject() {
        S.fresh(1);
        for (int what = 0; what <= 4; what++) S.due("count(" + what + ")", 0);
        S.dues("count(5) = -1", "count(6) = 0", "count(7) = 0", "count(8) = 0", "count(9) = 0", "count(10) = 0",
            "count(11) = 0", "count(12) = 1", "count(13) = 0", "count(14) = 0", "count(15) = 0", "count(16) = 0",
            "status() = 0", "reading(0) = -1", "pressure(0, 0) = -1", "stage(0) = -1", "drawn(0, 0) = -1",
            "flow(0, 0) = -2147483648", "ofChamber(0, 0) = -1", "ofTube(0, 0) = -1", "ofPump(0, 0) = -1",
            "ofWatch(0, 0) = -1", "lookout() = 0", "log(0, 0) = -1", "hottest(0) = 9", "until(0) = 0");
    }

    private static void chamber() {
        S.fresh(2);
        S.dues("chamber(-1, 0) = -1", "chamber(100, 0) = -1", "chamber(0, -1) = -1", "chamber(0, 5000) = -1", "count(0) = 0",
            "chamber(99, 4999) = 0", "chamber(0, 0) = 1", "chamber(1, 2) = 2", "chamber(3, 4) = 3", "chamber(5, 6) = 4",
            "chamber(5, 6) = -5", "chamber(100, 6) = -1", "count(0) = 5", "ofChamber(0, 0) = 99", "ofChamber(0, 1) = 4999",
            "ofChamber(0, 2) = 0", "ofChamber(4, 0) = 5", "ofChamber(4, 1) = 6", "count(13) = 5", "count(16) = 1");
    }

    private static void tube() {
        S.fresh(3);
        S.calls("chamber(0, 0)", "chamber(0, 0)", "chamber(0, 0)");
        S.dues("tube(0, 1, 0, 0, 0) = -1", "tube(0, 1, 13, 0, 0) = -1", "tube(0, 1, 1, -1, 0) = -1", "tube(0, 1, 1, 13, 0) = -1",
            "tube(0, 1, 1, 1, -1) = -1", "tube(0, 1, 1, 1, 13) = -1", "tube(0, 1, 1, 0, 1) = -1", "tube(7, 7, 0, 0, 0) = -1",
            "tube(0, 3, 1, 0, 0) = -2", "tube(3, 0, 1, 0, 0) = -2", "tube(-1, 0, 1, 0, 0) = -2", "tube(3, 3, 1, 0, 0) = -2",
            "tube(1, 1, 1, 0, 0) = -4", "count(1) = 0",
            "tube(0, 1, 12, 0, 0) = 0", "ofTube(0, 2) = 12", "ofTube(0, 0) = 0", "ofTube(0, 1) = 1", "ofTube(0, 3) = 1",
            "tube(1, 0, 9, 9, 9) = 1", "ofTube(1, 2) = 3", "ofTube(1, 0) = 1", "ofTube(1, 1) = 0",
            "tube(0, 1, 1, 1, 1) = 2", "ofTube(2, 2) = 1", "tube(0, 1, 12, 12, 0) = 3", "ofTube(3, 2) = 6",
            "tube(0, 1, 12, 11, 0) = 4", "ofTube(4, 2) = 5", "tube(0, 1, 12, 12, 5) = 5", "ofTube(5, 2) = 2",
            "tube(0, 1, 1, 12, 12) = 6", "ofTube(6, 2) = 1", "tube(0, 2, 1, 0, 0) = 7", "tube(0, 2, 1, 0, 0) = 8",
            "tube(0, 2, 1, 0, 0) = 9", "tube(0, 2, 1, 0, 0) = -5", "tube(1, 1, 1, 0, 0) = -4", "count(1) = 10");
        S.fresh(3);
        S.calls("chamber(0, 0)", "chamber(0, 0)", "pump(0, 40)", "pump(0, 40)", "pump(0, 39)");
        S.dues("tube(0, 1, 2, 0, 0) = -5", "tube(1, 0, 2, 0, 0) = -5", "tube(1, 0, 1, 0, 0) = 0", "ofChamber(0, 4) = 120",
            "tube(1, 0, 1, 0, 0) = -5", "count(16) = 3");
        S.fresh(3);
        S.calls("chamber(0, 0)", "chamber(0, 0)", "pump(0, 40)", "pump(0, 40)", "pump(0, 39)");
        S.dues("tube(0, 1, 1, 0, 0) = 0", "tube(0, 1, 1, 0, 0) = -5", "ofChamber(1, 4) = 1");
    }

    private static void pump() {
        S.fresh(4);
        S.calls("chamber(0, 0)", "chamber(0, 0)");
        S.dues("pump(0, 0) = -1", "pump(0, 41) = -1", "pump(9, 0) = -1", "pump(2, 1) = -2", "pump(-1, 1) = -2", "pump(1, 40) = 0",
            "ofPump(0, 0) = 1", "ofPump(0, 1) = 1", "ofPump(0, 2) = 40", "ofPump(0, 3) = 40", "ofPump(0, 4) = 40",
            "ofPump(0, 5) = 1", "ofPump(0, 6) = 2", "ofPump(0, 7) = 0", "ofPump(0, 8) = 0", "pump(0, 1) = 1", "pump(0, 2) = 2",
            "pump(0, 1) = -5", "pump(5, 1) = -2", "count(2) = 3");
        S.fresh(4);
        S.calls("chamber(0, 0)", "chamber(0, 0)");
        for (int i = 0; i < 8; i++) S.call("tube(0, 1, 12, 0, 0)");
        S.dues("ofChamber(0, 4) = 96", "pump(0, 25) = -5", "pump(0, 24) = 0", "ofChamber(0, 4) = 120", "ofChamber(1, 4) = 96");
    }

    private static void curve() {
        S.fresh(5);
        S.calls("chamber(0, 0)", "pump(0, 7)");
        S.dues("curve(0, -1, 1) = -1", "curve(0, 6, 1) = -1", "curve(0, 0, -1) = -1", "curve(0, 1, 41) = -1", "curve(0, 2, 41) = -1",
            "curve(0, 3, 0) = -1", "curve(0, 4, 10000) = -1", "curve(0, 5, -1) = -1", "curve(0, 5, 10000) = -1",
            "curve(1, 5, 10000) = -1", "curve(1, 5, 1) = -2", "curve(-1, 5, 1) = -2",
            "curve(0, 0, 0) = 7", "curve(0, 1, 0) = 7", "curve(0, 2, 0) = -4", "curve(0, 1, 3) = 0", "curve(0, 2, 40) = 7",
            "curve(0, 3, 2) = -4", "curve(0, 4, 1) = -4", "curve(0, 4, 9999) = 2", "curve(0, 3, 9999) = -4", "curve(0, 3, 9998) = 1",
            "curve(0, 4, 9998) = -4", "curve(0, 5, 9999) = 0", "curve(0, 5, 0) = 9999", "ofPump(0, 2) = 0", "ofPump(0, 3) = 3",
            "ofPump(0, 4) = 40", "ofPump(0, 5) = 9998", "ofPump(0, 6) = 9999", "ofPump(0, 7) = 0", "count(15) = 5");
        S.fresh(5);
        S.calls("chamber(0, 0)", "pump(0, 40)", "pump(0, 40)", "pump(0, 30)", "chamber(0, 0)", "tube(0, 1, 8, 0, 0)");
        S.dues("ofChamber(0, 4) = 118", "curve(2, 1, 33) = -5", "curve(2, 1, 32) = 30", "ofChamber(0, 4) = 120",
            "curve(2, 0, 33) = -5", "curve(2, 0, 32) = 30", "curve(2, 1, 0) = 32", "ofChamber(0, 4) = 120", "curve(2, 0, 1) = 32",
            "ofChamber(0, 4) = 118", "count(16) = 2");
    }

    private static void set() {
        S.fresh(6);
        S.calls("chamber(5, 640)");
        S.dues("set(0, 3, 0) = -1", "set(0, -1, 0) = -1", "set(0, 0, 100) = -1", "set(0, 0, -1) = -1", "set(0, 1, 5000) = -1",
            "set(0, 2, 10) = -1", "set(1, 2, 10) = -1", "set(1, 2, 9) = -2", "set(-1, 0, 0) = -2", "set(0, 0, 99) = 5",
            "set(0, 0, 6) = 99", "set(0, 2, 9) = 0", "ofChamber(0, 3) = 96", "set(0, 1, 4999) = 640", "ofChamber(0, 3) = 708",
            "set(0, 1, 7) = 4999", "ofChamber(0, 3) = 6", "set(0, 2, 0) = 9", "ofChamber(0, 2) = 0");
    }

    private static void turnAndRun() {
        threeInARow(7);
        S.dues("turn(2) = -2", "turn(-1) = -2", "turn(0) = 0", "ofTube(0, 3) = 0", "ofChamber(0, 6) = 1", "turn(0) = 1",
            "ofTube(0, 3) = 1", "ofChamber(0, 6) = 7", "ofChamber(0, 4) = 2");
        threeInARow(8);
        S.dues("run(1) = -2", "run(-1) = -2", "run(0) = 0", "ofPump(0, 1) = 0", "pressure(0, 0) = -2", "run(0) = 1",
            "pressure(0, 0) = 21", "pressure(0, 1) = 2", "ofPump(0, 8) = 0");
    }

    private static void leak() {
        threeInARow(9);
        S.dues("leak(0, -1) = -1", "leak(0, 61) = -1", "leak(99, 61) = -1", "leak(3, 1) = -2", "leak(-1, 1) = -2", "leak(9, 1) = -2",
            "leak(12, 1) = -2", "leak(11, 60) = 0", "count(5) = 11", "count(6) = 60", "leak(0, 1) = 60", "count(5) = 0",
            "leak(-77, 0) = 1", "count(5) = -1", "count(6) = 0", "leak(1, 0) = 0", "count(5) = -1");
        // a tube that is shut leaks into both its ends all the same, also by half
        S.fresh(9);
        S.calls("chamber(0, 0)", "chamber(0, 0)", "tube(0, 1, 3, 0, 0)", "turn(0)", "pump(0, 4)", "leak(10, 1)");
        S.dues("pressure(0, 0) = 1", "pressure(0, 1) = 8", "pressure(1, 0) = -2", "reading(0) = 125");
    }

    private static void watchAndDrop() {
        S.fresh(10);
        S.dues("watch(-1, 0, 0, 0, 0) = -1", "watch(3, 0, 0, 0, 0) = -1", "watch(0, 10, 0, 0, 0) = -1", "watch(0, -1, 0, 0, 0) = -1",
            "watch(0, 0, -1, 0, 0) = -1", "watch(0, 0, 100000000, 0, 0) = -1", "watch(0, 0, 0, 5, 0) = -1",
            "watch(0, 0, 0, -1, 0) = -1", "watch(0, 0, 0, 0, 10) = -1", "watch(0, 0, 0, 0, -1) = -1", "count(3) = 0",
            "watch(2, 9, 99999999, 4, 9) = 0", "ofWatch(0, 0) = 2", "ofWatch(0, 1) = 9", "ofWatch(0, 2) = 99999999",
            "ofWatch(0, 3) = 4", "ofWatch(0, 4) = 9", "ofWatch(0, 5) = 0");
        for (int i = 1; i < 6; i++) S.due("watch(1, 2, " + i + ", 3, 4)", i);
        S.dues("watch(1, 2, 3, 3, 4) = -5", "watch(9, 2, 3, 3, 4) = -1", "count(3) = 6");
        // what there is not makes no condition and no action
        S.calls("steps(1)");
        for (int i = 0; i < 6; i++) S.due("ofWatch(" + i + ", 5)", 0);
        S.fresh(10);
        S.calls("watch(1, 0, 5, 3, 0)", "watch(2, 0, 0, 0, 0)", "watch(2, 0, 0, 2, 0)", "watch(2, 0, 0, 4, 0)");
        S.dues("lookout() = 14", "steps(2) = 0");
        S.fresh(10);
        S.calls("chamber(5, 0)", "chamber(5, 0)", "tube(0, 1, 1, 0, 0)", "pump(0, 5)", "watch(2, 0, 0, 1, 1)", "watch(2, 0, 0, 3, 1)",
            "watch(2, 0, 0, 0, 1)", "watch(2, 0, 0, 2, 1)", "watch(2, 0, 0, 4, 2)", "watch(1, 2, 99999999, 0, 0)");
        S.dues("lookout() = 31", "steps(2) = 0", "ofWatch(0, 5) = 0", "ofWatch(1, 5) = 0", "ofWatch(5, 5) = 0");
        S.fresh(11);
        for (int i = 0; i < 4; i++) S.call("watch(2, 0, " + i + ", 0, 0)");
        S.dues("drop(4) = -2", "drop(-1) = -2", "drop(1) = 3", "ofWatch(0, 2) = 0", "ofWatch(1, 2) = 2", "ofWatch(2, 2) = 3",
            "ofWatch(3, 2) = -1", "drop(2) = 2", "drop(0) = 1", "ofWatch(0, 2) = 2", "drop(0) = 0", "drop(0) = -2", "count(14) = 3");
        // how often it was done goes along
        S.fresh(11);
        S.calls("chamber(5, 0)", "pump(0, 5)", "watch(2, 0, 9, 3, 0)", "watch(2, 0, 0, 2, 0)", "steps(1)", "drop(0)");
        S.dues("ofWatch(0, 5) = 1", "ofWatch(0, 3) = 2");
    }

    private static void steps() {
        S.fresh(12);
        S.dues("steps(0) = -1", "steps(41) = -1", "steps(-1) = -1", "count(4) = 0");
        for (int i = 0; i < 249; i++) S.call("steps(40)");
        S.dues("count(4) = 9960", "steps(40) = -4", "steps(41) = -1", "steps(39) = 0", "count(4) = 9999", "steps(1) = -4",
            "status() = -4", "count(8) = 40", "until(0) = 0", "trip(1) = -1");
        // watch by watch: the second sees what the first has done
        S.fresh(12);
        S.calls("chamber(10, 0)", "pump(0, 5)", "watch(1, 0, 2001, 2, 0)", "watch(0, 0, 2000, 3, 0)", "watch(0, 0, 2000, 3, 0)");
        S.dues("steps(1) = 2", "ofWatch(0, 5) = 1", "ofWatch(1, 5) = 1", "ofWatch(2, 5) = 0", "steps(3) = 6", "ofWatch(0, 5) = 4",
            "log(0, 0) = 2000", "lookout() = 1");
        // above and below are strict
        S.fresh(12);
        S.calls("chamber(10, 0)", "pump(0, 5)", "watch(0, 0, 2000, 2, 0)", "watch(1, 0, 2000, 2, 0)");
        S.dues("lookout() = 0", "steps(1) = 0");
        // each action
        S.fresh(12);
        S.calls("chamber(1, 64)", "chamber(0, 0)", "tube(0, 1, 1, 0, 0)", "pump(0, 1)", "set(0, 2, 3)", "watch(2, 7, 1, 0, 0)",
            "watch(2, 7, 2, 1, 0)", "watch(2, 7, 3, 2, 0)", "watch(2, 7, 4, 3, 0)", "watch(2, 7, 5, 4, 0)");
        S.dues("steps(1) = 0", "ofTube(0, 3) = 1", "steps(1) = 1", "ofTube(0, 3) = 0", "steps(1) = 1", "ofTube(0, 3) = 1",
            "drop(0) = 4", "drop(0) = 3", "steps(1) = 1", "ofPump(0, 1) = 0", "steps(1) = 1", "ofPump(0, 1) = 1",
            "ofChamber(0, 2) = 3", "drop(0) = 2", "steps(1) = 1", "ofChamber(0, 2) = 0", "steps(1) = 0");
        // trips: all at once, by the pressures ahead of them; 1,000 times trip is enough
        S.fresh(12);
        S.calls("chamber(10, 0)", "pump(0, 5)", "pump(0, 5)", "curve(0, 5, 1)", "curve(1, 5, 1)");
        S.dues("reading(0) = 1000", "steps(1) = 2", "ofPump(0, 8) = 1", "ofPump(1, 8) = 1", "log(0, 0) = 99999999", "steps(1) = 0",
            "run(0) = 1", "steps(1) = 1", "ofPump(0, 8) = 2");
        S.fresh(12);
        S.calls("chamber(10, 0)", "pump(0, 6)", "curve(0, 5, 2)");
        S.dues("reading(0) = 1666", "steps(5) = 0", "ofPump(0, 1) = 1");
        // gas goes after the log is written, in the same step
        S.fresh(12);
        S.calls("chamber(0, 640)", "pump(0, 10)", "set(0, 2, 2)");
        S.dues("steps(1) = 0", "log(0, 0) = 2000", "ofChamber(0, 1) = 620", "steps(1) = 0", "log(0, 0) = 1900",
            "ofChamber(0, 1) = 601", "count(4) = 2");
        hunting(12);
        S.calls("watch(0, 0, 0, 2, 0)", "watch(1, 0, 99999999, 2, 0)", "curve(0, 5, 1)");
        S.dues("lookout() = 0", "steps(1) = 0", "log(0, 0) = -3", "ofPump(0, 1) = 1");
    }

    private static void notes() {
        threeInARow(13);
        S.dues("note(0, -2) = -1", "note(0, 100000000) = -1", "note(3, 100000000) = -1", "note(3, 0) = -2", "note(-1, 0) = -2",
            "note(0, 99999999) = -1", "status() = 0", "count(7) = 1", "ofChamber(0, 5) = 99999999", "note(0, 0) = 99999999",
            "note(0, -1) = 0", "count(7) = 0", "ofChamber(0, 5) = -1", "note(0, -1) = -1", "status() = 0", "count(13) = 3");
        threeInARow(14);
        S.dues("noteAll() = 3", "count(7) = 3", "ofChamber(0, 5) = 10500", "ofChamber(2, 5) = 3000", "run(0) = 0", "noteAll() = 3",
            "ofChamber(1, 5) = 99999999");
        hunting(14);
        S.dues("noteAll() = -4", "status() = -4", "count(7) = 0");
        S.fresh(14);
        S.dues("noteAll() = 0", "status() = 0", "count(9) = 1");
    }

    private static void undo() {
        S.fresh(15);
        S.dues("undo() = -4", "status() = -4", "chamber(1, 640) = 0", "chamber(2, 2) = 1", "tube(0, 1, 1, 0, 0) = 0", "pump(0, 9) = 0",
            "curve(0, 0, 3) = 9", "count(9) = 5", "undo() = 3", "ofPump(0, 2) = 9", "undo() = 2", "count(2) = 0", "undo() = 1",
            "count(1) = 0", "undo() = 0", "count(0) = 1", "undo() = 0", "count(0) = 0", "undo() = -4", "count(15) = 2");
        S.calls("chamber(1, 640)", "chamber(2, 2)", "tube(0, 1, 1, 0, 0)", "pump(0, 9)");
        S.dues("set(0, 2, 4) = 0", "turn(0) = 0", "run(0) = 0", "leak(0, 5) = 0", "watch(2, 0, 0, 3, 0) = 0", "steps(3) = 1",
            "note(0, 5) = -1", "noteAll() = 2", "drop(0) = 0", "chamber(100, 0) = -1", "count(9) = 10",
            "undo() = 9", "count(3) = 1", "ofWatch(0, 5) = 1", "undo() = 12", "ofChamber(0, 5) = 5", "ofChamber(1, 5) = -1",
            "undo() = 11", "ofChamber(0, 5) = -1", "undo() = 10", "count(4) = 0", "count(8) = 0", "ofChamber(0, 1) = 640",
            "ofPump(0, 1) = 0", "ofWatch(0, 5) = 0", "log(0, 0) = -1", "undo() = 8", "undo() = 7", "count(6) = 0", "count(5) = -1",
            "undo() = 6", "ofPump(0, 1) = 1", "undo() = 5", "ofTube(0, 3) = 1", "undo() = 4", "ofChamber(0, 2) = 0", "undo() = 2",
            "undo() = -4", "count(1) = 1", "count(9) = 0");
        // only ten are kept, and what came later stands again after a new act
        S.fresh(15);
        S.calls("chamber(0, 0)");
        for (int i = 1; i <= 12; i++) S.call("set(0, 0, " + i + ")");
        S.dues("count(9) = 10", "undo() = 4", "ofChamber(0, 0) = 11", "set(0, 0, 50) = 11", "undo() = 4", "ofChamber(0, 0) = 11");
        for (int i = 10; i >= 2; i--) {
            S.due("undo()", 4);
            S.due("ofChamber(0, 0)", i);
        }
        S.dues("undo() = -4", "ofChamber(0, 0) = 2", "count(13) = 0", "count(15) = 1");
        // the log as it was comes back
        S.fresh(15);
        S.calls("chamber(5, 0)", "pump(0, 5)", "steps(2)", "set(0, 0, 10)", "steps(40)");
        S.dues("log(0, 39) = 2000", "log(0, 40) = -1", "undo() = 10", "count(8) = 2", "log(0, 0) = 1000", "log(0, 1) = 1000", "log(0, 2) = -1");
        S.calls("steps(38)", "set(0, 0, 15)", "steps(40)", "undo()");
        for (int ago = 0; ago < 38; ago++) S.due("log(0, " + ago + ")", 2000);
        S.dues("log(0, 38) = 1000", "log(0, 39) = 1000", "count(8) = 40");
    }

    private static void images() {
        S.fresh(16);
        S.dues("image(2) = -1", "image(-1) = -1", "image(0) = 0", "status() = 0", "count(9) = 0", "chamber(7, 0) = 0", "pump(0, 7) = 0",
            "steps(5) = 0", "image(1) = 5", "count(9) = 3", "undo() = 10", "count(4) = 0");
        S.fresh(17);
        S.dues("back(0) = -4", "back(2) = -1", "back(-1) = -1", "chamber(7, 0) = 0", "pump(0, 7) = 0", "steps(5) = 0", "image(1) = 5",
            "back(0) = -4", "set(0, 0, 14) = 7", "watch(0, 0, 0, 0, 0) = 0", "note(0, 3) = -1", "leak(0, 9) = 0", "steps(1) = 0",
            "log(0, 0) = 3285", "back(1) = 5", "status() = 0", "count(9) = 0", "undo() = -4", "count(3) = 0", "count(6) = 0",
            "count(7) = 0", "log(0, 0) = 1000", "log(0, 4) = 1000", "log(0, 5) = -1", "ofChamber(0, 0) = 7", "count(15) = 3",
            "count(13) = 2", "set(0, 0, 1) = 7", "back(1) = 5", "ofChamber(0, 0) = 7", "image(0) = 5", "back(0) = 5", "back(1) = 5");
    }

    private static void pressures() {
        // 15 go out by 5: 3; 10 by C 4: 5 1/2; 10 by C 2: 10 1/2
        threeInARow(18);
        S.dues("pressure(2, 0) = 3", "pressure(2, 1) = 1", "pressure(1, 0) = 11", "pressure(1, 1) = 2", "pressure(0, 0) = 21",
            "pressure(0, 1) = 2", "pressure(3, 0) = -1", "pressure(0, 2) = -1", "pressure(0, -1) = -1", "pressure(-1, 1) = -1",
            "turn(1) = 0", "pressure(0, 0) = -2", "pressure(1, 1) = -2", "pressure(2, 0) = 1", "set(0, 0, 0) = 10",
            "pressure(0, 0) = 0", "pressure(0, 1) = 1");
        hunting(18);
        S.dues("pressure(0, 0) = -3", "pressure(0, 1) = -3", "pressure(0, 2) = -1", "pressure(1, 0) = -1");
        // one net that hunts leaves no pressure anywhere
        S.dues("chamber(1, 0) = 1", "pump(1, 1) = 1", "pressure(1, 0) = -3", "reading(1) = -3", "stage(1) = -3", "drawn(1, 0) = -3");
        threeInARow(19);
        S.dues("reading(0) = 10500", "reading(1) = 5500", "reading(3) = -1", "reading(-1) = -1", "run(0) = 0", "reading(2) = 99999999",
            "run(0) = 1", "curve(0, 1, 7) = 5", "curve(0, 2, 7) = 5", "reading(2) = 2142");
        hunting(19);
        S.dues("reading(0) = -3", "reading(1) = -1");
    }

    private static void flows() {
        threeInARow(20);
        S.dues("flow(0, 0) = 10", "flow(0, 1) = 1", "flow(1, 0) = 10", "flow(2, 0) = -2147483648", "flow(-1, 0) = -2147483648",
            "flow(0, 2) = -2147483648", "flow(0, -1) = -2147483648", "tube(2, 0, 1, 0, 0) = 2", "flow(2, 0) = -30", "flow(2, 1) = 7",
            "turn(2) = 0", "flow(2, 0) = 0", "flow(2, 1) = 1", "run(0) = 0", "flow(2, 0) = 0", "flow(0, 0) = -2147483648",
            "flow(0, 1) = -2147483648");
        hunting(20);
        S.calls("chamber(0, 0)", "tube(0, 1, 1, 0, 0)");
        S.dues("flow(0, 0) = -2147483648", "turn(0) = 0", "count(11) = 1", "flow(0, 0) = -2147483648", "flow(0, 1) = -2147483648");
        // half the leak of a tube is not asked
        S.fresh(20);
        S.calls("chamber(0, 0)", "chamber(0, 0)", "tube(0, 1, 2, 0, 0)", "pump(1, 4)", "leak(10, 3)");
        S.dues("flow(0, 0) = 3", "flow(0, 1) = 2", "drawn(0, 0) = 3", "drawn(0, 1) = 1");
    }

    private static void drawnAndStage() {
        threeInARow(21);
        S.dues("drawn(0, 0) = 15", "drawn(0, 1) = 1", "drawn(1, 0) = -1", "drawn(-1, 0) = -1", "drawn(0, 2) = -1", "drawn(0, -1) = -1",
            "pump(0, 3) = 1", "drawn(1, 0) = 90", "drawn(1, 1) = 11", "run(1) = 0", "drawn(1, 0) = 0", "drawn(1, 1) = 1");
        // above bound c it draws nothing, and so the pressure is endless
        S.fresh(21);
        S.calls("chamber(12, 0)", "pump(0, 4)", "curve(0, 2, 0)");
        S.dues("stage(0) = 2", "drawn(0, 0) = -2", "drawn(0, 1) = -2", "reading(0) = 99999999", "set(0, 0, 0) = 12", "stage(0) = 0",
            "drawn(0, 0) = 0", "drawn(0, 1) = 1", "curve(0, 0, 0) = 4", "stage(0) = 0", "count(12) = 1", "pressure(0, 0) = 0",
            "pressure(0, 1) = 1", "drawn(0, 0) = 0");
        hunting(21);
        S.dues("drawn(0, 0) = -3", "drawn(0, 1) = -3", "pump(0, 1) = 1", "run(1) = 0", "count(11) = 1", "drawn(1, 0) = -3", "stage(1) = -3");
        S.fresh(22);
        S.calls("chamber(10, 0)", "pump(0, 5)", "curve(0, 4, 4)", "curve(0, 3, 3)");
        S.dues("stage(0) = 0", "set(0, 0, 15) = 10", "stage(0) = 1", "set(0, 0, 19) = 15", "stage(0) = 1", "set(0, 0, 20) = 19",
            "stage(0) = 2", "run(0) = 0", "stage(0) = 0", "stage(1) = -1", "stage(-1) = -1");
        // two rows of stages agree: 12 by 6 is 2, 12 by 1 is 12; the first counts
        S.fresh(22);
        S.calls("chamber(12, 0)", "pump(0, 6)", "curve(0, 4, 9)", "curve(0, 3, 5)", "curve(0, 1, 2)", "curve(0, 2, 1)");
        S.dues("count(12) = 3", "stage(0) = 0", "reading(0) = 2000", "curve(0, 0, 0) = 6", "count(12) = 2", "stage(0) = 1",
            "reading(0) = 6000", "curve(0, 1, 0) = 2", "stage(0) = 2", "reading(0) = 12000");
        // (0, 2) and (1, 1) agree: pump 0's least comes first
        S.fresh(22);
        S.calls("chamber(22, 0)", "chamber(11, 0)", "tube(0, 1, 6, 0, 0)", "pump(0, 21)", "curve(0, 4, 5)", "curve(0, 3, 4)",
            "curve(0, 1, 0)", "curve(0, 2, 24)", "pump(1, 9)", "curve(1, 1, 25)", "curve(1, 2, 2)");
        S.dues("count(12) = 2", "stage(0) = 0", "stage(1) = 2", "pressure(0, 0) = 121", "pressure(0, 1) = 90", "reading(1) = 2383",
            "drawn(0, 0) = 847", "drawn(0, 1) = 30", "drawn(1, 0) = 143", "drawn(1, 1) = 30");
    }

    private static void betweenAndReduced() {
        threeInARow(23);
        S.dues("between(0, 2, 0) = 4", "between(0, 2, 1) = 3", "between(2, 0, 0) = 4", "between(0, 1, 0) = 2", "between(0, 0, 0) = -1",
            "between(0, 3, 0) = -1", "between(-1, 0, 0) = -1", "between(0, 2, 2) = -1", "between(0, 2, -1) = -1", "turn(0) = 0",
            "between(0, 2, 0) = -1", "between(1, 2, 0) = 4", "between(1, 2, 1) = 1");
        bridge(23);
        // a bridge in balance: the middle tube carries nothing
        S.dues("between(0, 3, 0) = 1", "between(0, 3, 1) = 1", "tube(0, 1, 1, 0, 0) = 5", "between(0, 3, 0) = 13", "between(0, 3, 1) = 11");
        bridge(24);
        S.dues("reduced(0, 3, 0) = 5", "reduced(0, 3, 1) = 0", "reduced(0, 3, 2) = 0", "reduced(1, 2, 0) = 1", "reduced(1, 2, 1) = 2",
            "reduced(1, 2, 2) = 1", "turn(4) = 0", "reduced(0, 3, 0) = 1", "reduced(0, 3, 1) = 1", "reduced(0, 3, 2) = 1",
            "reduced(0, 0, 0) = -1", "reduced(0, 4, 0) = -1", "reduced(-1, 0, 0) = -1", "reduced(0, 3, 3) = -1", "reduced(0, 3, -1) = -1");
        S.fresh(24);
        S.calls("chamber(0, 0)", "chamber(0, 0)", "chamber(0, 0)", "chamber(0, 0)", "chamber(0, 0)");
        S.dues("reduced(0, 1, 0) = 0", "reduced(0, 1, 1) = 0", "reduced(0, 1, 2) = 0");
        // what hangs apart from both goes too, a ring of three
        S.calls("tube(2, 3, 1, 0, 0)", "tube(3, 4, 2, 0, 0)", "tube(4, 2, 3, 0, 0)");
        S.dues("reduced(0, 1, 0) = 0", "reduced(2, 3, 0) = 1", "reduced(2, 3, 1) = 11", "reduced(2, 3, 2) = 5", "reduced(0, 2, 0) = 0");
        // but not what four hold together
        S.calls("tube(1, 2, 1, 0, 0)", "tube(1, 3, 1, 0, 0)", "tube(1, 4, 1, 0, 0)");
        S.dues("reduced(0, 1, 0) = 6", "reduced(0, 1, 1) = 0");
    }

    private static void seeking() {
        S.fresh(25);
        S.dues("suspects(0) = 0", "suspects(1) = -1", "suspects(2) = -1", "suspects(3) = 0", "suspects(4) = 0", "suspects(5) = -1",
            "suspects(-1) = -1", "probe(0) = -1");
        threeInARow(25);
        // nothing noted: every joint and every strength
        S.dues("suspects(0) = 300", "suspects(1) = 0", "suspects(2) = 1", "suspects(3) = 5", "suspects(4) = 0");
        // the leak as it is stays aside, and comes back
        S.dues("leak(11, 4) = 0", "noteAll() = 3", "suspects(0) = 1", "suspects(1) = 11", "suspects(2) = 4", "suspects(3) = 1",
            "suspects(4) = 3", "count(5) = 11", "count(6) = 4", "note(0, 1) = 11800", "suspects(0) = 0", "suspects(1) = -1",
            "suspects(2) = -1", "suspects(3) = 0", "suspects(4) = 2");
        // only the pump's chamber is noted: each joint gives it
        threeInARow(25);
        S.dues("note(2, 4000) = -1", "suspects(0) = 5", "suspects(3) = 5", "suspects(1) = 0", "suspects(2) = 5");
        hunting(25);
        S.dues("suspects(0) = 53", "suspects(2) = 8", "set(0, 0, 0) = 12", "suspects(0) = 50");
        S.fresh(25);
        S.calls("chamber(40, 0)", "pump(0, 5)", "curve(0, 4, 9999)", "curve(0, 3, 9998)", "curve(0, 0, 0)", "note(0, 9)");
        // without speed below the bounds all is endless, and so none of the stages agree
        S.dues("suspects(0) = 0", "suspects(4) = 0", "count(11) = 1", "suspects(1) = -1");
    }

    private static void probing() {
        threeInARow(26);
        S.dues("note(2, 4000) = -1", "suspects(0) = 5", "probe(0) = 0", "probe(1) = 3", "probe(2) = -1", "probe(-1) = -1",
            "note(2, 4001) = 4000", "probe(0) = -1", "probe(1) = -1");
        S.fresh(26);
        S.calls("chamber(1, 0)", "pump(0, 1)");
        S.dues("suspects(0) = 60", "probe(0) = -1", "probe(1) = -1");
        // beside a second tube between 0 and 1 only shutting tube 1 tells anything apart
        threeInARow(26);
        S.calls("tube(0, 1, 12, 0, 0)");
        S.dues("note(2, 4000) = -1", "suspects(0) = 6", "probe(0) = 1", "probe(1) = 4");
        // only chamber 0 is noted: 4 at chamber 1, 9 at chamber 2 bring it 1.8 more; tube 2, open, tells them apart
        threeInARow(26);
        S.calls("tube(0, 2, 1, 0, 0)", "turn(2)");
        S.dues("note(0, 12300) = -1", "suspects(0) = 2", "suspects(1) = 1", "suspects(2) = 4", "suspects(3) = 2", "probe(0) = 2",
            "probe(1) = 1", "note(0, -1) = 12300", "note(1, 7300) = -1", "suspects(0) = 4", "probe(0) = 2", "probe(1) = 1");
        // those by which it hunts belong together, apart from the others, even when nothing is noted
        S.fresh(26);
        S.calls("chamber(0, 0)", "chamber(0, 0)", "pump(1, 4)", "curve(0, 4, 9)", "curve(0, 3, 5)", "curve(0, 0, 2)",
            "tube(0, 1, 1, 0, 0)", "turn(0)");
        S.dues("suspects(0) = 150", "probe(0) = 0", "probe(1) = 10", "note(1, 0) = -1", "suspects(0) = 60", "probe(1) = 10");
        // nothing noted: the first twenty belong together by any tube
        threeInARow(26);
        S.dues("probe(0) = 0", "probe(1) = 20");
    }

    private static void parting() {
        bridge(27);
        S.dues("parts(0, 3, 0) = 2", "parts(0, 3, 1) = 3", "parts(3, 0, 1) = 3", "parts(1, 2, 0) = 3", "parts(1, 2, 1) = 21",
            "parts(0, 0, 0) = -1", "parts(0, 4, 0) = -1", "parts(-1, 0, 1) = -1", "parts(0, 3, 2) = -1", "parts(0, 3, -1) = -1",
            "turn(0) = 0", "parts(0, 3, 0) = 1", "parts(0, 3, 1) = 2", "turn(1) = 0", "parts(0, 3, 0) = -1", "parts(0, 3, 1) = -1");
    }

    private static void helping() {
        threeInARow(28);
        S.dues("place(0) = -1", "place(41) = -1", "place(5) = 0", "place(1) = 0");
        S.fresh(28);
        S.dues("place(1) = -1");
        S.calls("chamber(0, 0)", "chamber(0, 0)");
        S.dues("place(40) = 0", "set(1, 0, 1) = 0", "place(40) = 1");
        heavyTwo(28);
        // a weight of 160 just fits
        S.dues("place(40) = 0", "ofChamber(0, 4) = 120");
        threeInARow(36);
        S.dues("helped(0, 5, 2) = 1173", "helped(2, 5, 2) = 1500", "helped(2, 5, 0) = 9000", "helped(3, 5, 2) = -1", "helped(-1, 5, 2) = -1",
            "helped(0, 0, 2) = -1", "helped(0, 41, 2) = -1", "helped(0, 5, 3) = -1", "helped(0, 5, -1) = -1", "count(2) = 1");
        heavyTwo(36);
        S.dues("helped(0, 40, 0) = 312", "ofChamber(0, 4) = 120", "count(2) = 3");
        hunting(36);
        // 12 by 2 + 1 is 4, and there it stays
        S.dues("helped(0, 1, 0) = 4000", "helped(0, 40, 0) = 285");
        hunting(36);
        S.dues("set(0, 0, 15) = 12", "helped(0, 1, 0) = -3", "place(1) = -1");
        S.fresh(36);
        S.calls("chamber(1, 0)", "chamber(0, 0)", "pump(0, 40)", "pump(0, 40)", "pump(0, 40)");
        S.dues("helped(0, 40, 0) = 6", "pump(0, 1) = -5", "helped(1, 40, 1) = 0");
    }

    /** Chamber 0 with all the weight that it may have, 50 coming in. */
    private static void heavyTwo(int promise) {
        S.fresh(promise);
        S.calls("chamber(50, 0)", "pump(0, 40)", "pump(0, 40)", "pump(0, 40)");
    }

    private static void bounds() {
        S.fresh(29);
        S.calls("chamber(10, 640)", "pump(0, 10)", "set(0, 2, 9)");
        // each degree of heat brings 10 more
        S.dues("hottest(-1) = -1", "hottest(999) = -1", "hottest(1000) = 0", "hottest(4999) = 3", "hottest(5000) = 4",
            "hottest(10000) = 9", "hottest(2147483647) = 9", "ofChamber(0, 2) = 9", "run(0) = 0", "hottest(99999998) = -1",
            "hottest(99999999) = 9");
        S.fresh(30);
        S.calls("chamber(10, 0)", "chamber(6, 0)", "tube(0, 1, 2, 0, 0)", "pump(1, 4)");
        S.dues("fed(0, -1) = -1", "fed(2, 5) = -1", "fed(-1, 5) = -1", "reading(0) = 9000", "fed(0, 9000) = 10", "fed(0, 8999) = 9",
            "fed(1, 9000) = 6", "fed(0, 99999999) = 99", "fed(0, 0) = -1", "fed(0, 1499) = -1", "fed(0, 1500) = 0", "fed(0, 75750) = 99", "fed(0, 75749) = 98", "ofChamber(0, 0) = 10");
        // it can fit again above a hole where it hunts: 2 below 5, 4 from there on
        hunting(30);
        S.dues("fed(0, 4999) = 9", "fed(0, 5000) = 20", "fed(0, 5750) = 23");
        S.fresh(30);
        S.calls("chamber(10, 0)", "pump(0, 5)");
        S.dues("fed(0, 0) = 0", "fed(0, 199) = 0", "fed(0, 200) = 1");
        S.fresh(31);
        S.calls("chamber(0, 0)", "pump(0, 5)");
        S.dues("bears(0, 0) = 0", "bears(0, 199) = 0", "bears(0, 200) = 1", "bears(1, 99999999) = -1", "bears(9, 99999999) = -1",
            "bears(10, 99999999) = -1");
        S.fresh(31);
        S.calls("chamber(10, 0)", "chamber(6, 0)", "tube(0, 1, 2, 0, 0)", "pump(1, 4)", "leak(0, 60)");
        S.dues("bears(0, -1) = -1", "bears(2, 5) = -1", "bears(-1, 5) = -1", "bears(11, 5) = -1", "bears(0, 9000) = 0",
            "bears(0, 8999) = -1", "bears(0, 9750) = 1", "bears(10, 9750) = 1", "bears(10, 9500) = 1", "bears(10, 9499) = 0",
            "bears(0, 99999999) = 60", "count(6) = 60", "count(5) = 0");
    }

    private static void valves() {
        threeInARow(32);
        S.dues("tube(0, 2, 12, 0, 0) = 2", "turn(2) = 0", "valve(0) = 2", "valve(1) = 3750", "valve(2) = -1", "valve(-1) = -1",
            "ofTube(2, 3) = 0", "turn(2) = 1", "valve(0) = 0", "valve(1) = 3833");
        S.fresh(32);
        S.calls("chamber(1, 0)");
        S.dues("valve(0) = -1", "valve(1) = -1");
        hunting(32);
        S.calls("chamber(0, 0)", "tube(0, 1, 1, 0, 0)");
        S.dues("valve(0) = -1", "valve(1) = -1");
    }

    private static void tripping() {
        S.fresh(33);
        S.calls("chamber(1, 0)", "pump(0, 1)", "pump(0, 1)", "curve(1, 5, 1)", "curve(0, 5, 1)");
        S.dues("trip(0) = -1", "trip(1) = -1", "watch(2, 0, 7, 2, 0) = 0", "trip(0) = 1", "trip(1) = 8", "trip(2) = -1", "trip(-1) = -1",
            "count(4) = 0", "ofPump(1, 8) = 0", "set(0, 0, 2) = 1", "trip(0) = 0", "trip(1) = 1", "drop(0) = 0", "set(0, 0, 1) = 2",
            "watch(2, 0, 199, 2, 0) = 0", "trip(1) = 200", "drop(0) = 0", "watch(2, 0, 200, 2, 0) = 0", "trip(1) = -1", "trip(0) = -1");
        // one that comes to run
        S.fresh(33);
        S.calls("chamber(9, 0)", "pump(0, 1)", "curve(0, 5, 2)", "run(0)", "watch(2, 0, 3, 3, 0)");
        S.dues("trip(0) = 0", "trip(1) = 4");
        // not beyond TIME 9,999
        S.fresh(33);
        S.calls("chamber(1, 0)", "pump(0, 1)", "curve(0, 5, 1)", "run(0)");
        for (int i = 0; i < 249; i++) S.call("steps(40)");
        S.dues("watch(2, 0, 9998, 3, 0) = 0", "trip(1) = 39", "drop(0) = 0", "watch(2, 0, 9999, 3, 0) = 0", "trip(1) = -1");
    }

    private static void lookoutAndTried() {
        threeInARow(34);
        S.calls("watch(0, 0, 10499, 4, 0)", "watch(0, 0, 10500, 4, 0)", "watch(1, 0, 10500, 4, 0)", "watch(1, 0, 10501, 4, 0)",
            "watch(2, 9, 0, 4, 0)", "watch(1, 3, 99999999, 4, 0)");
        S.dues("lookout() = 25", "run(0) = 0", "lookout() = 19", "drop(5) = 5", "watch(1, 0, 99999999, 4, 0) = 5", "lookout() = 19");
        threeInARow(35);
        S.dues("leak(2, 60) = 0", "tried(0, 0, 0) = 10500", "tried(0, 2, 0) = 12400", "tried(10, 1, 0) = 11200", "tried(3, 0, 0) = -1",
            "tried(12, 1, 0) = -1", "tried(-1, 1, 0) = -1", "tried(0, 61, 0) = -1", "tried(0, -1, 0) = -1", "tried(0, 1, 3) = -1",
            "tried(0, 1, -1) = -1", "count(6) = 60");
        hunting(35);
        S.dues("tried(0, 0, 0) = -3", "tried(0, 7, 0) = -3", "tried(0, 8, 0) = 5000", "tried(1, 0, 0) = -1");
    }

    private static void untilAndLog() {
        S.fresh(37);
        S.calls("chamber(0, 640)", "pump(0, 10)", "set(0, 2, 2)");
        S.dues("until(-1) = -1", "until(2000) = 0", "until(1999) = 1", "until(1900) = 1", "until(1899) = 2", "until(1800) = 2",
            "count(4) = 0", "ofChamber(0, 1) = 640");
        // gas stops coming when less than one goes
        S.dues("until(0) = 112");
        S.dues("set(0, 0, 1) = 0", "until(99) = -1", "until(100) = 112");
        S.fresh(37);
        S.calls("chamber(0, 0)", "pump(0, 1)", "set(0, 0, 5)", "watch(2, 0, 199, 0, 0)", "watch(2, 0, 199, 3, 1)", "pump(0, 4)", "run(1)");
        S.dues("until(1000) = 200", "drop(1) = 1", "watch(2, 0, 200, 3, 1) = 1", "until(1000) = -1");
        S.fresh(37);
        S.calls("chamber(5, 0)", "pump(0, 1)", "run(0)");
        for (int i = 0; i < 249; i++) S.call("steps(40)");
        S.dues("watch(2, 0, 9998, 3, 0) = 0", "until(5000) = 39", "drop(0) = 0", "watch(2, 0, 9999, 3, 0) = 0", "until(5000) = -1");
        S.fresh(38);
        S.calls("chamber(5, 0)", "pump(0, 5)");
        S.dues("log(0, 0) = -1", "steps(1) = 0", "log(0, 0) = 1000", "log(0, 1) = -1", "chamber(3, 0) = 1", "log(1, 0) = -1",
            "log(2, 0) = -1", "log(0, -1) = -1", "log(-1, 0) = -1", "pump(1, 1) = 1", "steps(1) = 0", "log(1, 0) = 3000",
            "log(1, 1) = -1", "set(0, 0, 10) = 5", "steps(38) = 0", "log(0, 37) = 2000", "log(0, 38) = 1000", "log(0, 39) = 1000",
            "count(8) = 40", "steps(1) = 0", "log(0, 39) = 1000", "log(0, 38) = 2000", "log(1, 39) = 3000", "log(0, 40) = -1", "count(8) = 40");
        hunting(38);
        S.dues("steps(2) = 0", "log(0, 1) = -3", "chamber(0, 0) = 1", "log(1, 0) = -1", "steps(1) = 0", "log(1, 0) = -3");
    }

    private static void whatStands() {
        threeInARow(39);
        S.calls("set(1, 2, 3)", "note(1, 77)");
        S.dues("ofChamber(1, 0) = 0", "ofChamber(1, 1) = 640", "ofChamber(1, 2) = 3", "ofChamber(1, 3) = 30", "ofChamber(1, 4) = 6",
            "ofChamber(1, 5) = 77", "ofChamber(1, 6) = 7", "ofChamber(0, 5) = -1", "ofChamber(1, 7) = -1", "ofChamber(1, -1) = -1",
            "ofChamber(3, 0) = -1", "ofChamber(-1, 0) = -1", "turn(1) = 0", "ofChamber(1, 6) = 3", "ofChamber(2, 6) = 4", "ofChamber(1, 4) = 6");
        threeInARow(40);
        S.dues("ofTube(1, 0) = 1", "ofTube(1, 1) = 2", "ofTube(1, 2) = 4", "ofTube(1, 3) = 1", "ofTube(1, 4) = -1", "ofTube(1, -1) = -1",
            "ofTube(2, 0) = -1", "ofTube(-1, 0) = -1");
        threeInARow(41);
        S.calls("curve(0, 0, 1)", "curve(0, 1, 2)", "curve(0, 2, 3)", "curve(0, 4, 70)", "curve(0, 3, 60)", "curve(0, 5, 8)");
        S.dues("ofPump(0, 0) = 2", "ofPump(0, 1) = 1", "ofPump(0, 2) = 1", "ofPump(0, 3) = 2", "ofPump(0, 4) = 3", "ofPump(0, 5) = 60",
            "ofPump(0, 6) = 70", "ofPump(0, 7) = 8", "ofPump(0, 8) = 0", "ofPump(0, 9) = -1", "ofPump(0, -1) = -1", "ofPump(1, 0) = -1",
            "ofPump(-1, 0) = -1", "steps(1) = 1", "ofPump(0, 8) = 1", "ofPump(0, 1) = 0");
        S.fresh(42);
        S.calls("watch(1, 2, 3, 4, 5)");
        S.dues("ofWatch(0, 0) = 1", "ofWatch(0, 1) = 2", "ofWatch(0, 2) = 3", "ofWatch(0, 3) = 4", "ofWatch(0, 4) = 5", "ofWatch(0, 5) = 0",
            "ofWatch(0, 6) = -1", "ofWatch(0, -1) = -1", "ofWatch(1, 0) = -1", "ofWatch(-1, 0) = -1");
    }

    private static void counts() {
        threeInARow(43);
        S.calls("watch(2, 0, 0, 1, 0)", "steps(7)", "leak(11, 9)", "note(0, 1)", "note(1, 2)");
        S.dues("count(0) = 3", "count(1) = 2", "count(2) = 1", "count(3) = 1", "count(4) = 7", "count(5) = 11", "count(6) = 9",
            "count(7) = 2", "count(8) = 7", "count(9) = 10", "count(10) = 1", "count(11) = 0", "count(12) = 1", "count(13) = 0",
            "count(17) = -1", "count(-1) = -1", "turn(0) = 0", "count(10) = 2", "turn(1) = 0", "count(10) = 3", "chamber(-1, 0) = -1",
            "turn(9) = -2", "tube(0, 0, 1, 0, 0) = -4", "back(0) = -4", "chamber(0, 0) = 3", "chamber(0, 0) = 4", "chamber(0, 0) = -5",
            "count(13) = 1", "count(14) = 1", "count(15) = 2", "count(16) = 1", "undo() = 0", "count(13) = 1", "reading(9) = -1",
            "count(13) = 1");
        hunting(43);
        S.dues("count(11) = 1", "count(12) = 0", "run(0) = 0", "count(11) = 0", "count(12) = 1");
    }

    private static void statusAfterEach() {
        S.fresh(44);
        S.dues("status() = 0", "chamber(-1, 0) = -1", "status() = -1", "reading(0) = -1", "status() = -1", "chamber(1, 0) = 0", "status() = 0",
            "tube(0, 1, 1, 0, 0) = -2", "status() = -2", "pump(0, 1) = 0", "status() = 0", "curve(0, 3, 2) = -4", "status() = -4",
            "curve(0, 5, 2) = 0", "status() = 0", "set(5, 0, 0) = -2", "status() = -2", "set(0, 0, 0) = 1", "status() = 0",
            "turn(0) = -2", "status() = -2", "run(0) = 0", "status() = 0", "run(1) = -2", "status() = -2", "leak(0, 1) = 0", "status() = 0",
            "leak(1, 1) = -2", "status() = -2", "watch(0, 0, 0, 0, 0) = 0", "status() = 0", "watch(3, 0, 0, 0, 0) = -1", "status() = -1",
            "drop(0) = 0", "status() = 0", "drop(0) = -2", "status() = -2", "steps(1) = 0", "status() = 0", "steps(0) = -1",
            "status() = -1", "note(0, -1) = -1", "status() = 0", "note(1, 0) = -2", "status() = -2", "noteAll() = 1", "status() = 0",
            "image(3) = -1", "status() = -1", "image(1) = 1", "status() = 0", "back(0) = -4", "status() = -4", "back(1) = 1",
            "status() = 0", "undo() = -4", "status() = -4", "set(0, 0, 1) = 0", "undo() = 4", "status() = 0", "chamber(0, 5000) = -1",
            "undo() = -4", "status() = -4", "tube(0, 0, 1, 0, 0) = -4", "pump(0, 41) = -1", "status() = -1");
    }

    public static void main(String[] args) {
        newObject();
        chamber();
        tube();
        pump();
        curve();
        set();
        turnAndRun();
        leak();
        watchAndDrop();
        steps();
        notes();
        undo();
        images();
        pressures();
        flows();
        drawnAndStage();
        betweenAndReduced();
        seeking();
        probing();
        parting();
        helping();
        bounds();
        valves();
        tripping();
        lookoutAndTried();
        untilAndLog();
        whatStands();
        counts();
        statusAfterEach();
        S.close("PromisesTest");
    }
}
