/** Each sentence of promises 1 to 17 and 44 (what changes the line) that names a boundary case. */
public final class ActsBoundaryTest {
    private static final Script S = new Script();

    private ActsBoundaryTest() {
    }

    private static void newObject() {
        S.sentence("Promise 1", "`VacuumDesk()`: Nothing is there.");
        for (int what = 0; what <= 16; what++) S.due("count(" + what + ")", what == 5 ? -1 : what == 12 ? 1 : 0);
        S.dues("status() = 0", "lookout() = 0", "log(0, 0) = -1", "reading(0) = -1", "pressure(0, 0) = -1", "flow(0, 0) = -2147483648",
            "drawn(0, 0) = -1", "stage(0) = -1", "between(0, 1, 0) = -1", "reduced(0, 1, 0) = -1", "parts(0, 1, 0) = -1",
            "suspects(0) = 0", "suspects(1) = -1", "suspects(2) = -1", "suspects(3) = 0", "suspects(4) = 0", "probe(0) = -1",
            "place(1) = -1", "hottest(0) = 9", "fed(0, 0) = -1", "bears(0, 0) = -1", "bears(10, 0) = -1", "valve(0) = -1",
            "valve(1) = -1", "trip(0) = -1", "trip(1) = -1", "tried(0, 0, 0) = -1", "helped(0, 1, 0) = -1", "until(0) = 0",
            "ofChamber(0, 0) = -1", "ofTube(0, 0) = -1", "ofPump(0, 0) = -1", "ofWatch(0, 0) = -1");
        S.again();
        S.dues("tube(0, 1, 1, 0, 0) = -2", "pump(0, 1) = -2", "curve(0, 5, 0) = -2", "set(0, 0, 0) = -2", "turn(0) = -2", "run(0) = -2",
            "leak(0, 1) = -2", "leak(10, 1) = -2", "drop(0) = -2", "note(0, 0) = -2", "undo() = -4", "back(0) = -4", "back(1) = -4",
            "leak(0, 0) = 0", "noteAll() = 0", "steps(40) = 0", "image(0) = 40", "count(8) = 40", "log(0, 0) = -1", "count(9) = 3");
    }

    private static void chambers() {
        S.sentence("Promise 2", "A CHAMBER: its number. -1 (FEED, GAS); -5.");
        S.taken("chamber(#, 0)", 0, 99, -1);
        S.taken("chamber(0, #)", 0, 4999, -1);
        S.dues("chamber(99, 4999) = 0", "ofChamber(0, 0) = 99", "ofChamber(0, 1) = 4999", "ofChamber(0, 2) = 0", "ofChamber(0, 5) = -1",
            "chamber(0, 0) = 1", "chamber(0, 0) = 2", "chamber(0, 0) = 3", "chamber(0, 0) = 4", "chamber(0, 0) = -5", "chamber(99, 4999) = -5",
            "undo() = 0", "count(0) = 4", "chamber(7, 8) = 4", "ofChamber(4, 0) = 7", "ofChamber(4, 1) = 8");
        // what an undone chamber had does not come back with the next one
        S.again("chamber(1, 1)", "set(0, 2, 9)", "note(0, 5)", "undo()", "undo()", "undo()");
        S.dues("chamber(0, 0) = 0", "ofChamber(0, 2) = 0", "ofChamber(0, 5) = -1");
    }

    private static void tubes() {
        S.sentence("Promise 3", "(0: none, the second, the third alone can be none, the third only with the second)", "chamber(0, 0)",
            "chamber(0, 0)");
        S.dues("tube(0, 1, 0, 0, 0) = -1", "tube(0, 1, 0, 1, 0) = -1", "tube(0, 1, 0, 1, 1) = -1", "tube(0, 1, 0, 0, 1) = -1",
            "tube(0, 1, 1, 0, 1) = -1", "tube(0, 1, 1, 0, 12) = -1", "tube(0, 1, 12, 0, 0) = 0", "tube(0, 1, 12, 6, 0) = 1",
            "tube(0, 1, 12, 6, 4) = 2", "ofTube(0, 2) = 12", "ofTube(1, 2) = 4", "ofTube(2, 2) = 2");
        S.taken("tube(0, 1, #, 0, 0)", 1, 12, -1);
        S.taken("tube(0, 1, 1, #, 0)", 0, 12, -1);
        S.taken("tube(0, 1, 1, 1, #)", 0, 12, -1);
        S.sentence("Promise 3", "its number. -1; -2; -4 (both are one)", "chamber(0, 0)");
        S.dues("tube(0, 1, 1, 0, 0) = -2", "tube(1, 0, 1, 0, 0) = -2", "chamber(0, 0) = 1", "tube(0, 1, 1, 0, 0) = 0",
            "tube(0, 2, 1, 0, 0) = -2", "tube(2, 0, 1, 0, 0) = -2", "tube(-1, 0, 1, 0, 0) = -2", "tube(0, -1, 1, 0, 0) = -2",
            "tube(0, 2147483647, 1, 0, 0) = -2", "tube(-2147483648, 0, 1, 0, 0) = -2", "tube(0, 0, 1, 0, 0) = -4",
            "tube(1, 1, 12, 12, 12) = -4", "tube(2, 2, 1, 0, 0) = -2", "tube(-1, -1, 1, 0, 0) = -2", "count(1) = 1");
        S.sentence("Promise 3", "-5 (10 there are, or WEIGHT of one would be above 120)", "chamber(0, 0)", "chamber(0, 0)",
            "chamber(0, 0)");
        S.repeat(9, "tube(0, 1, 1, 0, 0)");
        S.dues("tube(1, 2, 1, 0, 0) = 9", "tube(1, 2, 1, 0, 0) = -5", "undo() = 1", "tube(1, 2, 12, 0, 0) = 9", "ofTube(9, 2) = 12");
        S.again("chamber(0, 0)", "chamber(0, 0)", "chamber(0, 0)", "pump(0, 40)", "pump(0, 40)", "pump(0, 38)");
        // C of 12 and 2 in series is 1: what counts is C, not the pieces
        S.dues("tube(0, 1, 3, 0, 0) = -5", "tube(1, 0, 3, 0, 0) = -5", "tube(0, 1, 12, 2, 0) = 0", "ofTube(0, 2) = 1",
            "tube(1, 0, 2, 0, 0) = -5", "tube(1, 0, 1, 0, 0) = 1", "ofChamber(0, 4) = 120", "ofChamber(1, 4) = 2",
            "tube(0, 2, 1, 1, 1) = -5", "tube(1, 2, 12, 0, 0) = 2", "ofChamber(1, 4) = 14");
    }

    private static void pumps() {
        S.sentence("Promise 4", "A PUMP of one SPEED (BOUNDS 1 and 2, no TRIP): its number. -1 (1 .. 40); -2;", "chamber(0, 0)");
        S.taken("pump(0, #)", 1, 40, -1);
        S.taken("pump(#, 1)", 0, 0, -2);
        S.dues("pump(0, 40) = 0", "ofPump(0, 0) = 0", "ofPump(0, 1) = 1", "ofPump(0, 2) = 40", "ofPump(0, 3) = 40", "ofPump(0, 4) = 40",
            "ofPump(0, 5) = 1", "ofPump(0, 6) = 2", "ofPump(0, 7) = 0", "ofPump(0, 8) = 0");
        // what an undone pump had does not come back with the next one
        S.again("chamber(9, 0)", "pump(0, 2)", "curve(0, 4, 99)", "curve(0, 3, 9)", "curve(0, 5, 1)", "steps(1)");
        S.dues("ofPump(0, 8) = 1");
        S.repeat(5, "undo()");
        S.dues("count(2) = 0", "pump(0, 1) = 0", "ofPump(0, 1) = 1", "ofPump(0, 5) = 1", "ofPump(0, 6) = 2", "ofPump(0, 7) = 0",
            "ofPump(0, 8) = 0");
        S.sentence("Promise 4", "-5 (3 there are, or WEIGHT)", "chamber(0, 0)", "chamber(0, 0)", "pump(0, 1)", "pump(1, 1)", "pump(0, 1)");
        S.dues("pump(1, 1) = -5", "undo() = 2", "pump(1, 40) = 2", "pump(1, 40) = -5");
        S.again("chamber(0, 0)", "chamber(0, 0)");
        S.repeat(7, "tube(0, 1, 12, 0, 0)");
        S.dues("ofChamber(0, 4) = 84", "pump(0, 37) = -5", "pump(0, 36) = 0", "pump(0, 1) = -5", "pump(1, 36) = 1", "ofChamber(1, 4) = 120");
    }

    private static void curves() {
        S.sentence("Promise 5", "0 s, 1 t, 2 u, 3 b, 4 c, 5 TRIP: what it was. -1; -2;", "chamber(0, 0)", "pump(0, 3)", "curve(0, 4, 50)");
        S.taken("curve(0, #, 20)", 0, 5, -1);
        for (int what = 0; what < 3; what++) S.taken("curve(0, " + what + ", #)", 0, 40, -1);
        S.taken("curve(0, 5, #)", 0, 9999, -1);
        S.dues("curve(0, 4, 9999) = 50", "curve(0, 3, 9998) = 1", "curve(0, 3, 10000) = -1", "curve(0, 4, 10000) = -1",
            "curve(0, 3, 1) = 9998", "curve(0, 3, 0) = -1", "curve(0, 4, 2) = 9999", "curve(0, 4, 0) = -1");
        S.taken("curve(#, 0, 1)", 0, 0, -2);
        S.taken("curve(#, 5, 0)", 0, 0, -2);
        S.sentence("Promise 5", "-4 (all SPEEDS would be 0; b is not below c then)", "chamber(0, 0)", "pump(0, 3)");
        S.dues("curve(0, 0, 0) = 3", "curve(0, 2, 0) = 3", "curve(0, 1, 0) = -4", "curve(0, 1, 1) = 3", "curve(0, 3, 2) = -4",
            "curve(0, 3, 9999) = -4", "curve(0, 4, 1) = -4", "curve(0, 4, 2) = 2", "curve(0, 4, 3) = 2", "curve(0, 3, 2) = 1",
            "curve(0, 4, 2) = -4", "curve(0, 3, 3) = -4", "ofPump(0, 5) = 2", "ofPump(0, 6) = 3", "count(15) = 6");
        S.sentence("Promise 5", "b is not below c then); -5 (WEIGHT)", "chamber(0, 0)", "chamber(0, 0)", "pump(0, 1)", "pump(0, 40)",
            "pump(1, 40)");
        S.repeat(6, "tube(0, 1, 12, 0, 0)");
        S.dues("ofChamber(0, 4) = 113", "ofChamber(1, 4) = 112", "curve(0, 0, 9) = -5", "curve(0, 1, 9) = -5", "curve(0, 2, 9) = -5",
            "curve(0, 0, 8) = 1", "ofChamber(0, 4) = 120", "curve(0, 1, 8) = 1", "curve(0, 2, 8) = 1", "ofChamber(0, 4) = 120",
            "curve(0, 1, 9) = -5", "curve(0, 1, 0) = 8", "ofChamber(0, 4) = 120", "curve(0, 5, 9999) = 0", "curve(0, 4, 9999) = 2",
            "curve(1, 0, 39) = 40", "ofChamber(0, 4) = 120", "curve(1, 0, 40) = 39");
        // a pump that stands still weighs as well
        S.dues("run(0) = 0", "curve(0, 0, 9) = -5");
    }

    private static void sets() {
        S.sentence("Promise 6", "FEED (0), GAS (1), HEAT (2) of a CHAMBER: what it was. -1; -2.", "chamber(5, 6)");
        S.taken("set(0, 0, #)", 0, 99, -1);
        S.taken("set(0, 1, #)", 0, 4999, -1);
        S.taken("set(0, 2, #)", 0, 9, -1);
        S.taken("set(0, #, 9)", 0, 2, -1);
        S.taken("set(#, 0, 1)", 0, 0, -2);
        S.dues("set(0, 0, 99) = 5", "set(0, 0, 0) = 99", "set(0, 1, 4999) = 6", "set(0, 1, 0) = 4999", "set(0, 2, 9) = 0", "set(0, 2, 0) = 9",
            "set(0, 2, 0) = 0", "ofChamber(0, 0) = 0", "ofChamber(0, 1) = 0", "ofChamber(0, 2) = 0");
        S.again();
        S.repeat(5, "chamber(1, 1)");
        S.taken("set(#, 1, 2)", 0, 4, -2);
    }

    private static void turnsAndRuns() {
        S.sentence("Promise 7", "A TUBE's valve is turned: 1 it is OPEN then, 0 SHUT. -2.", "chamber(0, 0)", "chamber(0, 0)");
        S.dues("turn(0) = -2");
        S.call("tube(0, 1, 1, 0, 0)");
        S.taken("turn(#)", 0, 0, -2);
        S.repeat(9, "tube(0, 1, 1, 0, 0)");
        S.taken("turn(#)", 0, 9, -2);
        S.dues("turn(9) = 0", "ofTube(9, 3) = 0", "turn(9) = 1", "ofTube(9, 3) = 1");
        S.sentence("Promise 8", "A PUMP is started or stopped: 1 it RUNS then, 0 not. -2.", "chamber(0, 0)");
        S.dues("run(0) = -2");
        S.call("pump(0, 1)");
        S.taken("run(#)", 0, 0, -2);
        S.calls("pump(0, 1)", "pump(0, 1)");
        S.taken("run(#)", 0, 2, -2);
        S.dues("run(2) = 0", "ofPump(2, 1) = 0", "run(2) = 1", "ofPump(2, 1) = 1");
    }

    private static void leaks() {
        S.sentence("Promise 9", "The LEAK (strength 0: none; JOINT is not asked): how strong it was.", Script.THREE_IN_A_ROW);
        S.dues("leak(0, 0) = 0", "leak(99, 0) = 0", "leak(-2147483648, 0) = 0", "status() = 0", "leak(2, 60) = 0", "count(5) = 2",
            "leak(5, 0) = 60", "count(5) = -1", "count(6) = 0", "leak(11, 1) = 0", "leak(-1, 0) = 1", "count(5) = -1", "count(9) = 10");
        S.sentence("Promise 9", "how strong it was. -1 (0 .. 60); -2.", Script.THREE_IN_A_ROW);
        S.taken("leak(0, #)", 0, 60, -1);
        S.taken("leak(11, #)", 0, 60, -1);
        S.taken("leak(#, 1)", 0, 2, -2);
        S.taken("leak(#, 60)", 10, 11, -2);
        S.dues("leak(0, 60) = 0", "leak(3, 1) = -2", "count(5) = 0", "count(6) = 60", "leak(0, 61) = -1", "count(6) = 60");
    }

    private static void watches() {
        S.sentence("Promise 10", "-1 (CONDITION 0 .. 2, n 0 .. 99,999,999, ACTION 0 .. 4; x, y 0 .. 9); -5.");
        S.taken("watch(#, 0, 0, 0, 0)", 0, 2, -1);
        S.taken("watch(0, 0, #, 0, 0)", 0, 99999999, -1);
        S.taken("watch(2, 0, #, 0, 0)", 0, 99999999, -1);
        S.taken("watch(0, 0, 0, #, 0)", 0, 4, -1);
        for (int k = 0; k <= 2; k++) S.taken("watch(" + k + ", #, 0, 0, 0)", 0, 9, -1);
        for (int k = 0; k <= 4; k++) S.taken("watch(0, 0, 0, " + k + ", #)", 0, 9, -1);
        S.dues("watch(2, 9, 99999999, 4, 9) = 0", "ofWatch(0, 0) = 2", "ofWatch(0, 1) = 9", "ofWatch(0, 2) = 99999999", "ofWatch(0, 3) = 4",
            "ofWatch(0, 4) = 9", "ofWatch(0, 5) = 0");
        for (int i = 1; i <= 5; i++) S.due("watch(0, 0, 0, 0, 0)", i);
        S.dues("watch(0, 0, 0, 0, 0) = -5", "drop(0) = 5", "watch(1, 1, 1, 1, 1) = 5", "ofWatch(5, 4) = 1", "ofWatch(5, 5) = 0");
        S.sentence("Promise 10", "(CHAMBERS, TUBES, PUMPS that there are not: the CONDITION is not so, nothing is done.)", "chamber(5, 0)",
            "chamber(0, 0)", "tube(0, 1, 1, 0, 0)", "pump(0, 1)", "watch(1, 2, 99999999, 2, 0)", "watch(0, 9, 0, 2, 0)",
            "watch(2, 0, 0, 0, 1)", "watch(2, 0, 0, 2, 1)", "watch(2, 0, 0, 4, 2)", "watch(2, 0, 0, 3, 9)");
        S.dues("lookout() = 60", "steps(2) = 0", "count(11) = 0", "ofTube(0, 3) = 1", "ofPump(0, 1) = 1");
        for (int w = 0; w < 6; w++) S.due("ofWatch(" + w + ", 5)", 0);
        // once they are there, they count
        S.dues("set(1, 2, 3) = 0", "chamber(0, 0) = 2", "set(2, 2, 3) = 0", "tube(0, 2, 1, 0, 0) = 1", "pump(1, 1) = 1", "steps(1) = 4",
            "ofWatch(0, 5) = 1", "ofWatch(1, 5) = 0", "ofWatch(2, 5) = 1", "ofWatch(3, 5) = 1", "ofWatch(4, 5) = 1",
            "ofWatch(5, 5) = 0", "ofChamber(1, 2) = 3", "ofChamber(2, 2) = 0");
        // as many as there can be, and the one beyond
        S.again();
        S.repeat(5, "chamber(1, 64)");
        S.repeat(10, "tube(0, 1, 1, 0, 0)");
        S.repeat(3, "pump(0, 1)");
        S.calls("set(4, 2, 1)", "watch(2, 0, 0, 0, 9)", "watch(2, 0, 0, 2, 2)", "watch(2, 0, 0, 4, 4)", "watch(2, 0, 0, 2, 3)", "watch(2, 0, 0, 4, 5)",
            "watch(0, 5, 0, 2, 0)");
        S.dues("lookout() = 31", "steps(1) = 3", "ofTube(9, 3) = 0", "ofPump(2, 1) = 0", "ofChamber(4, 2) = 0", "drop(5) = 5", "watch(1, 5, 99999999, 3, 3) = 5",
            "drop(0) = 5", "watch(2, 0, 0, 3, 3) = 5", "lookout() = 47", "steps(1) = 0", "ofPump(0, 1) = 1");
        S.sentence("Promise 11", "A WATCH goes, those above have a number 1 less: how many there are then. -2.");
        S.dues("drop(0) = -2");
        for (int i = 0; i < 6; i++) S.call("watch(2, 0, " + i + ", 0, 0)");
        S.taken("drop(#)", 0, 5, -2);
        S.dues("drop(5) = 5", "ofWatch(4, 2) = 4", "ofWatch(5, 2) = -1", "drop(5) = -2", "drop(0) = 4", "ofWatch(0, 2) = 1", "ofWatch(3, 2) = 4",
            "ofWatch(4, 2) = -1", "drop(1) = 3", "ofWatch(0, 2) = 1", "ofWatch(1, 2) = 3", "ofWatch(2, 2) = 4", "drop(0) = 2", "drop(0) = 1",
            "ofWatch(0, 2) = 4", "drop(1) = -2", "drop(0) = 0", "drop(0) = -2", "count(3) = 0");
        // how often it was done goes along with a watch, and goes with it
        S.again("chamber(1, 0)", "pump(0, 1)", "watch(2, 0, 9, 2, 0)", "watch(2, 0, 0, 2, 0)", "watch(2, 0, 1, 3, 0)", "watch(2, 0, 1, 2, 0)");
        S.dues("steps(3) = 5", "ofWatch(0, 5) = 0", "ofWatch(1, 5) = 1", "ofWatch(2, 5) = 2", "ofWatch(3, 5) = 2", "drop(0) = 3", "ofWatch(0, 5) = 1",
            "ofWatch(1, 5) = 2", "ofWatch(2, 5) = 2", "ofWatch(3, 5) = -1", "watch(0, 0, 0, 0, 0) = 3", "ofWatch(3, 5) = 0", "drop(3) = 3", "drop(2) = 2",
            "watch(0, 0, 0, 0, 0) = 2", "ofWatch(2, 5) = 0", "ofWatch(1, 5) = 2", "ofWatch(0, 5) = 1");
    }

    private static void steps() {
        S.sentence("Promise 12", "STEPS, n 1 .. 40: how many ACTIONS were DONE and PUMPS tripped in all. -1;", "chamber(1, 0)", "pump(0, 1)",
            "pump(0, 1)");
        S.taken("steps(#)", 1, 40, -1);
        S.calls("curve(0, 5, 1)", "watch(1, 0, 501, 2, 1)", "watch(2, 0, 39, 3, 1)", "watch(2, 0, 40, 3, 0)");
        // the watch stops pump 1, so that pump 0 trips in the same step; at TIME 39 pump 1 runs again
        S.dues("steps(40) = 3", "ofPump(0, 8) = 1", "ofWatch(0, 5) = 1", "ofWatch(1, 5) = 1", "ofWatch(2, 5) = 0", "steps(1) = 1",
            "ofWatch(2, 5) = 1");
        S.sentence("Promise 12", "-4 (TIME would be above 9,999)");
        S.repeat(249, "steps(40)");
        S.dues("count(4) = 9960", "steps(40) = -4", "count(4) = 9960", "status() = -4", "steps(39) = 0", "count(4) = 9999", "steps(1) = -4",
            "steps(40) = -4", "undo() = 10", "steps(38) = 0", "steps(2) = -4", "steps(1) = 0", "count(4) = 9999");
    }

    private static void notes() {
        S.sentence("Promise 13", "(0 .. 99,999,999; NONE: none is any more): what was (NONE). -1; -2.", "chamber(0, 0)");
        S.taken("note(0, #)", -1, 99999999, -1);
        S.taken("note(#, 0)", 0, 0, -2);
        S.taken("note(#, -1)", 0, 0, -2);
        S.dues("note(0, 0) = -1", "status() = 0", "count(7) = 1", "note(0, 99999999) = 0", "count(7) = 1", "note(0, -1) = 99999999",
            "count(7) = 0", "note(0, -1) = -1", "status() = 0", "note(0, -2) = -1", "status() = -1");
        S.sentence("Promise 14", "READINGS of all CHAMBERS are NOTED as they are now: how many. -4 (it HUNTS).");
        S.dues("noteAll() = 0", "status() = 0", "undo() = 12");
        for (int i = 1; i <= 5; i++) {
            S.call("chamber(" + i % 2 + ", 0)");
            S.due("noteAll()", i);
        }
        S.dues("count(7) = 5", "ofChamber(0, 5) = 99999999", "ofChamber(1, 5) = 0");
        S.again(Script.HUNTING);
        S.dues("noteAll() = -4", "status() = -4", "count(7) = 0", "note(0, 3) = -1", "noteAll() = -4", "ofChamber(0, 5) = 3", "run(0) = 0",
            "noteAll() = 1", "ofChamber(0, 5) = 99999999");
    }

    private static void undos() {
        S.sentence("Promise 15", "undo()`: The latest chamber() (told as 0)", "chamber(1, 640)", "chamber(2, 2)");
        S.dues("undo() = 0", "count(0) = 1", "undo() = 0", "count(0) = 0", "undo() = -4");
        S.sentence("Promise 15", "tube() (1), pump() (2), curve() (3), set() (4), turn() (5), run() (6), leak() (7), watch() (8), "
            + "drop() (9), steps() (10), note() (11), noteAll() (12)", "chamber(1, 640)", "chamber(2, 0)");
        oneUndone("tube(0, 1, 1, 0, 0)", 1, "count(1)");
        S.call("tube(0, 1, 1, 0, 0)");
        oneUndone("pump(0, 9)", 2, "count(2)");
        S.calls("pump(0, 9)", "curve(0, 4, 9)");
        for (int what = 0; what < 6; what++) oneUndone("curve(0, " + what + ", 8)", 3, "ofPump(0, " + (what + 2) + ")");
        for (int what = 0; what < 3; what++) oneUndone("set(0, " + what + ", 7)", 4, "ofChamber(0, " + what + ")");
        oneUndone("turn(0)", 5, "ofTube(0, 3)");
        oneUndone("run(0)", 6, "ofPump(0, 1)");
        oneUndone("leak(10, 5)", 7, "count(5)");
        oneUndone("leak(10, 5)", 7, "count(6)");
        oneUndone("watch(2, 0, 0, 2, 0)", 8, "count(3)");
        S.calls("watch(2, 0, 0, 2, 0)", "set(0, 2, 9)", "curve(0, 5, 1)");
        oneUndone("drop(0)", 9, "count(3)");
        for (String ask : new String[] {"count(4)", "count(8)", "ofWatch(0, 5)", "ofPump(0, 1)", "ofChamber(0, 1)", "log(0, 0)", "reading(0)"})
            oneUndone("steps(3)", 10, ask);
        S.calls("drop(0)");
        oneUndone("steps(1)", 10, "count(4)");
        oneUndone("note(1, 0)", 11, "ofChamber(1, 5)");
        oneUndone("noteAll()", 12, "ofChamber(1, 5)");
        oneUndone("noteAll()", 12, "count(7)");
        S.sentence("Promise 15", "that was not REFUSED (10 are kept) is undone: that.", "chamber(0, 0)");
        rounds();
        S.sentence("Promise 15", "-4 there is none.");
        S.dues("undo() = -4", "status() = -4", "count(15) = 1", "chamber(100, 0) = -1", "undo() = -4", "image(0) = 0", "undo() = -4",
            "reading(0) = -1", "undo() = -4", "leak(0, 0) = 0", "undo() = 7", "status() = 0", "undo() = -4", "count(15) = 5");
    }

    /** The act is done and undone; what is asked is then as it was ahead of it. */
    private static void oneUndone(String act, int kind, String ask) {
        long was = S.call(ask);
        long many = S.call("count(9)");
        S.call(act);
        S.due("status()", 0);
        if (S.call(ask) == was) S.say(act + " left " + ask + " as it was");
        S.due("undo()", kind);
        S.due(ask, was);
        S.due("count(9)", Math.min(many, 9));
    }

    /** Sets of 1, 2, .. with undos between them, so that the row of ten goes round several times. */
    private static void rounds() {
        for (int i = 1; i <= 9; i++) S.call("set(0, 0, " + i + ")");
        S.dues("count(9) = 10", "set(0, 0, 10) = 9", "count(9) = 10", "set(0, 0, 11) = 10", "count(9) = 10", "set(0, 0, 100) = -1",
            "turn(0) = -2", "count(9) = 10");
        for (int i = 10; i >= 1; i--) {
            S.due("undo()", 4);
            S.due("ofChamber(0, 0)", i);
            S.due("count(9)", i - 1);
        }
        S.dues("undo() = -4", "ofChamber(0, 0) = 1");
        for (int i = 2; i <= 37; i++) S.due("set(0, 0, " + i + ")", i - 1);
        for (int i = 36; i >= 33; i--) S.dues("undo() = 4", "ofChamber(0, 0) = " + i);
        S.due("count(9)", 6);
        for (int i = 34; i <= 36; i++) S.due("set(0, 0, " + i + ")", i - 1);
        S.due("count(9)", 9);
        for (int i = 35; i >= 27; i--) S.dues("undo() = 4", "ofChamber(0, 0) = " + i);
        S.dues("undo() = -4", "ofChamber(0, 0) = 27", "count(9) = 0");
    }

    private static void images() {
        S.sentence("Promise 16", "IMAGE k (0, 1) is kept, of all but what can be undone, what is told of REFUSED calls: TIME. -1.",
            "chamber(1, 64)", "chamber(0, 0)", "tube(0, 1, 1, 0, 0)", "pump(0, 1)");
        for (int k : new int[] {Integer.MIN_VALUE, -1, 2, Integer.MAX_VALUE}) S.dues("image(" + k + ") = -1", "status() = -1");
        S.dues("image(0) = 0", "status() = 0", "count(9) = 4", "steps(7) = 0", "image(1) = 7", "count(9) = 5", "count(13) = 4", "turn(9) = -2",
            "back(0) = 0", "count(13) = 4", "count(14) = 1", "back(1) = 7", "count(4) = 7", "count(8) = 7", "log(0, 6) = 1000",
            "log(0, 7) = -1", "back(0) = 0", "count(8) = 0", "image(1) = 0", "back(1) = 0");
        // each part of the line is held by it
        S.again(Script.THREE_IN_A_ROW);
        S.calls("image(0)", "set(0, 0, 1)", "set(1, 1, 1)", "set(1, 2, 1)", "turn(0)", "run(0)", "curve(0, 0, 1)", "curve(0, 5, 1)",
            "leak(0, 1)", "watch(2, 0, 0, 3, 0)", "note(0, 1)", "steps(2)", "chamber(0, 0)", "tube(0, 3, 1, 0, 0)", "pump(3, 1)", "image(1)");
        S.dues("back(0) = 0", "ofChamber(0, 0) = 10", "ofChamber(1, 1) = 640", "ofChamber(1, 2) = 0", "ofTube(0, 3) = 1", "ofPump(0, 1) = 1",
            "ofPump(0, 2) = 5", "ofPump(0, 7) = 0", "ofPump(0, 8) = 0", "count(6) = 0", "count(5) = -1", "count(3) = 0", "count(7) = 0",
            "count(4) = 0", "count(0) = 3", "count(1) = 2", "count(2) = 1", "log(0, 0) = -1", "back(1) = 2", "ofChamber(0, 0) = 1",
            "ofChamber(1, 2) = 1", "ofTube(0, 3) = 0", "ofPump(0, 2) = 1", "ofPump(0, 8) = 2", "count(6) = 1", "count(5) = 0", "count(3) = 1",
            "ofWatch(0, 5) = 2", "count(7) = 1", "count(0) = 4", "count(1) = 3", "count(2) = 2", "count(8) = 2");
        // a row of the log that has begun again comes back too
        S.again("chamber(1, 0)", "pump(0, 1)", "steps(40)", "set(0, 0, 2)", "steps(1)", "image(0)", "set(0, 0, 3)", "steps(40)");
        S.dues("log(0, 39) = 3000", "back(0) = 41", "log(0, 0) = 2000", "log(0, 1) = 1000", "log(0, 39) = 1000", "log(0, 40) = -1");
        S.sentence("Promise 17", "Back to IMAGE k: TIME then; nothing can be undone then. -1; -4 (it was not kept).", "chamber(1, 0)");
        for (int k : new int[] {Integer.MIN_VALUE, -1, 2, Integer.MAX_VALUE}) S.dues("back(" + k + ") = -1", "status() = -1");
        S.dues("back(0) = -4", "back(1) = -4", "status() = -4", "image(1) = 0", "back(0) = -4", "count(9) = 1", "back(1) = 0", "status() = 0",
            "count(9) = 0", "undo() = -4", "count(0) = 1", "set(0, 0, 5) = 1", "count(9) = 1", "back(1) = 0", "ofChamber(0, 0) = 1",
            "count(9) = 0", "undo() = -4", "back(2) = -1", "back(0) = -4");
        // after it the row of what can be undone begins anew
        for (int i = 1; i <= 12; i++) S.call("set(0, 0, " + i + ")");
        S.dues("count(9) = 10", "back(1) = 0", "set(0, 0, 50) = 1", "count(9) = 1", "undo() = 4", "ofChamber(0, 0) = 1", "undo() = -4");
    }

    private static void statuses() {
        S.sentence("Promise 44", "was REFUSED by; 0 if it was not, or ahead of any.");
        S.dues("status() = 0", "chamber(100, 0) = -1", "status() = -1", "status() = -1", "chamber(0, 0) = 0", "status() = 0",
            "tube(0, 0, 1, 0, 0) = -4", "status() = -4", "chamber(0, 0) = 1", "tube(0, 1, 1, 0, 0) = 0", "status() = 0", "pump(2, 1) = -2",
            "status() = -2", "pump(0, 1) = 0", "status() = 0", "curve(0, 3, 2) = -4", "status() = -4", "curve(0, 3, 1) = 1", "status() = 0",
            "set(0, 3, 0) = -1", "status() = -1", "set(0, 0, 0) = 0", "status() = 0", "turn(1) = -2", "status() = -2", "turn(0) = 0",
            "status() = 0", "run(1) = -2", "status() = -2", "run(0) = 0", "status() = 0", "leak(0, 61) = -1", "status() = -1",
            "leak(9, 0) = 0", "status() = 0", "watch(0, 0, 0, 5, 0) = -1", "status() = -1", "watch(0, 0, 0, 0, 0) = 0", "status() = 0",
            "drop(1) = -2", "status() = -2", "drop(0) = 0", "status() = 0", "steps(41) = -1", "status() = -1", "steps(1) = 0", "status() = 0",
            "note(2, 0) = -2", "status() = -2", "note(0, -1) = -1", "status() = 0", "image(2) = -1", "status() = -1", "image(0) = 1",
            "status() = 0", "back(1) = -4", "status() = -4", "back(0) = 1", "status() = 0", "undo() = -4", "status() = -4",
            "noteAll() = 2", "status() = 0", "undo() = 12", "status() = 0");
        // each of them, not REFUSED, right after one that was
        for (String act : new String[] {"chamber(0, 0)", "tube(0, 1, 1, 0, 0)", "pump(0, 1)", "curve(0, 0, 1)", "set(0, 0, 1)", "turn(0)", "run(0)",
            "leak(0, 1)", "watch(0, 0, 0, 0, 0)", "drop(0)", "steps(1)", "note(0, -1)", "noteAll()", "undo()", "image(1)", "back(1)"}) {
            S.dues("steps(0) = -1", "status() = -1");
            S.call(act);
            S.due("status()", 0);
        }
        // what only asks leaves it as it is
        S.dues("drop(0) = -2");
        for (String ask : new String[] {"pressure(9, 0)", "reading(9)", "flow(0, 0)", "drawn(0, 0)", "stage(0)", "between(0, 1, 0)",
            "reduced(0, 1, 0)", "suspects(9)", "probe(0)", "parts(0, 1, 0)", "place(0)", "hottest(-1)", "fed(0, 1)", "bears(0, 1)", "valve(0)",
            "trip(0)", "lookout()", "tried(0, 0, 0)", "helped(0, 1, 0)", "until(0)", "log(0, 0)", "ofChamber(0, 0)", "ofTube(0, 0)",
            "ofPump(0, 9)", "ofWatch(0, 0)", "count(17)"}) {
            S.call(ask);
            S.due("status()", -2);
        }
        S.dues("count(14) = 6");
        S.repeat(5, "chamber(0, 0)");
        S.dues("status() = -5", "noteAll() = 5", "status() = 0");
    }

    public static void main(String[] args) {
        newObject();
        chambers();
        tubes();
        pumps();
        curves();
        sets();
        turnsAndRuns();
        leaks();
        watches();
        steps();
        notes();
        undos();
        images();
        statuses();
        S.close("ActsBoundaryTest");
    }
}
