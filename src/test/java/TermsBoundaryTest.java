/** Each sentence of the document's section "Terms" that names a boundary case, by its own words. */
public final class TermsBoundaryTest {
    private static final Script S = new Script();

    /** Weight of chamber 0 is 118: two pumps of 40, one of 30, a tube of 8. */
    private static final String[] HEAVY = {
        "chamber(0, 0)", "chamber(0, 0)", "pump(0, 40)", "pump(0, 40)", "pump(0, 30)", "tube(0, 1, 8, 0, 0)"};

    /** Five in a row, each C 1, one pump of 1 at the last: here pressures are the greatest. */
    private static final String[] LONG_ROW = {
        "chamber(99, 4999)", "chamber(99, 4999)", "chamber(99, 4999)", "chamber(99, 4999)", "chamber(99, 4999)",
        "tube(0, 1, 1, 0, 0)", "tube(1, 2, 1, 0, 0)", "tube(2, 3, 1, 0, 0)", "tube(3, 4, 1, 0, 0)", "pump(4, 1)",
        "set(0, 2, 9)", "set(1, 2, 9)", "set(2, 2, 9)", "set(3, 2, 9)", "set(4, 2, 9)"};

    private TermsBoundaryTest() {
    }

    private static void howMany() {
        S.sentence("I", "CHAMBERS 0 .. 4");
        S.dues("count(0) = 0", "reading(0) = -1", "chamber(1, 0) = 0", "chamber(2, 0) = 1", "chamber(3, 0) = 2", "chamber(4, 0) = 3",
            "chamber(5, 0) = 4", "chamber(6, 0) = -5", "ofChamber(4, 0) = 5", "ofChamber(5, 0) = -1", "count(0) = 5");
        S.sentence("I", "TUBES 0 .. 9", "chamber(0, 0)", "chamber(0, 0)");
        for (int i = 0; i < 10; i++) S.due("tube(0, 1, " + (i + 1) + ", 0, 0)", i);
        S.dues("tube(0, 1, 1, 0, 0) = -5", "ofTube(9, 2) = 10", "ofTube(10, 2) = -1", "count(1) = 10", "turn(9) = 0", "turn(10) = -2");
        S.sentence("I", "PUMPS 0 .. 2", "chamber(0, 0)");
        S.dues("pump(0, 1) = 0", "pump(0, 2) = 1", "pump(0, 3) = 2", "pump(0, 4) = -5", "ofPump(2, 2) = 3", "ofPump(3, 2) = -1",
            "count(2) = 3", "run(2) = 0", "run(3) = -2");
        S.sentence("I", "WATCHES 0 .. 5");
        for (int i = 0; i < 6; i++) S.due("watch(2, 0, " + i + ", 0, 0)", i);
        S.dues("watch(2, 0, 6, 0, 0) = -5", "ofWatch(5, 2) = 5", "ofWatch(6, 2) = -1", "count(3) = 6", "drop(6) = -2", "drop(5) = 5",
            "watch(2, 0, 7, 0, 0) = 5");
        S.sentence("I", "each sort as they come");
        S.dues("watch(0, 0, 0, 0, 0) = 0", "chamber(0, 0) = 0", "pump(0, 1) = 0", "chamber(0, 0) = 1", "tube(1, 0, 1, 0, 0) = 0",
            "pump(1, 1) = 1", "watch(0, 0, 0, 0, 0) = 1", "tube(0, 1, 1, 0, 0) = 1", "chamber(0, 0) = 2", "undo() = 0",
            "chamber(0, 0) = 2");
    }

    private static void loads() {
        S.sentence("I", "Quotients go downwards", "chamber(0, 63)", "set(0, 2, 1)");
        S.dues("ofChamber(0, 3) = 0", "set(0, 1, 64) = 63", "ofChamber(0, 3) = 1", "set(0, 1, 127) = 64", "ofChamber(0, 3) = 1",
            "set(0, 1, 128) = 127", "ofChamber(0, 3) = 2", "set(0, 1, 7) = 128", "set(0, 2, 9) = 1", "ofChamber(0, 3) = 0",
            "set(0, 1, 8) = 7", "ofChamber(0, 3) = 1");
        S.sentence("I", "a FEED 0 .. 99, GAS in its walls 0 .. 4,999");
        S.taken("chamber(#, 0)", 0, 99, -1);
        S.taken("chamber(0, #)", 0, 4999, -1);
        S.call("chamber(1, 1)");
        S.taken("set(0, 0, #)", 0, 99, -1);
        S.taken("set(0, 1, #)", 0, 4999, -1);
        S.sentence("I", "a HEAT 0 .. 9 (0 each at first)", "chamber(99, 4999)");
        S.dues("ofChamber(0, 2) = 0", "ofChamber(0, 3) = 99", "set(0, 2, 9) = 0", "ofChamber(0, 2) = 9", "set(0, 2, 0) = 9");
        S.sentence("I", "LOAD: FEED and GAS times HEAT by 64", "chamber(99, 4999)");
        S.dues("set(0, 2, 9) = 0", "ofChamber(0, 3) = 801", "set(0, 0, 0) = 99", "ofChamber(0, 3) = 702", "set(0, 2, 0) = 9",
            "ofChamber(0, 3) = 0", "set(0, 2, 1) = 0", "ofChamber(0, 3) = 78");
    }

    private static void tubesAndPieces() {
        S.sentence("I", "A TUBE joins two unlike CHAMBERS, is OPEN (at first) or SHUT", "chamber(0, 0)", "chamber(0, 0)");
        S.dues("tube(0, 0, 1, 0, 0) = -4", "tube(1, 1, 1, 0, 0) = -4", "tube(0, 1, 1, 0, 0) = 0", "tube(1, 0, 1, 0, 0) = 1",
            "ofTube(0, 3) = 1", "ofTube(1, 0) = 1", "ofTube(1, 1) = 0", "turn(0) = 0", "ofTube(0, 3) = 0", "ofTube(1, 3) = 1");
        S.sentence("I", "of one to three PIECES 1 .. 12 in series", "chamber(0, 0)", "chamber(0, 0)");
        S.taken("tube(0, 1, #, 0, 0)", 1, 12, -1);
        S.taken("tube(0, 1, #, 5, 0)", 1, 12, -1);
        S.taken("tube(0, 1, 5, #, 5)", 1, 12, -1);
        S.taken("tube(0, 1, 5, 5, #)", 0, 12, -1);
        S.dues("tube(0, 1, 1, 0, 0) = 0", "ofTube(0, 2) = 1", "tube(0, 1, 12, 0, 0) = 1", "ofTube(1, 2) = 12");
        S.sentence("I", "one times the other by their sum, not cut, that likewise with the third; cut at last, 1 at least",
            "chamber(0, 0)", "chamber(0, 0)");
        // 3 and 12 make 12/5, with 12 just 2; were the 12/5 cut, it would be 1; 11 and 11 make 5 1/2
        S.dues("tube(0, 1, 3, 12, 12) = 0", "ofTube(0, 2) = 2", "tube(0, 1, 3, 12, 11) = 1", "ofTube(1, 2) = 1",
            "tube(0, 1, 1, 1, 1) = 2", "ofTube(2, 2) = 1", "tube(0, 1, 1, 1, 0) = 3", "ofTube(3, 2) = 1", "tube(0, 1, 12, 12, 12) = 4",
            "ofTube(4, 2) = 4", "tube(0, 1, 11, 11, 0) = 5", "ofTube(5, 2) = 5", "tube(0, 1, 2, 1, 0) = 6", "ofTube(6, 2) = 1",
            "tube(0, 1, 9, 9, 9) = 7", "ofTube(7, 2) = 3", "tube(0, 1, 9, 9, 8) = 8", "ofTube(8, 2) = 2", "tube(0, 1, 3, 6, 0) = 9",
            "ofTube(9, 2) = 2");
    }

    private static void pumps() {
        S.sentence("I", "A PUMP at a CHAMBER RUNS (at first) or not", "chamber(4, 0)", "pump(0, 4)");
        S.dues("ofPump(0, 1) = 1", "reading(0) = 1000", "run(0) = 0", "ofPump(0, 1) = 0", "reading(0) = 99999999", "run(0) = 1",
            "ofPump(0, 1) = 1");
        S.sentence("I", "SPEEDS s, t, u 0 .. 40 (not all 0)", "chamber(0, 0)", "pump(0, 1)");
        for (int what = 0; what < 3; what++) S.taken("curve(0, " + what + ", #)", 0, 40, -1);
        S.dues("curve(0, 0, 0) = 1", "curve(0, 1, 0) = 1", "curve(0, 2, 0) = -4", "curve(0, 0, 40) = 0", "curve(0, 2, 0) = 1",
            "curve(0, 0, 0) = -4", "curve(0, 1, 1) = 0", "curve(0, 0, 0) = 40", "curve(0, 1, 0) = -4", "curve(0, 1, 40) = 1");
        S.sentence("I", "BOUNDS b, c 1 .. 9,999 (b below c)", "chamber(0, 0)", "pump(0, 1)");
        S.dues("curve(0, 4, 10000) = -1", "curve(0, 4, 2147483647) = -1", "curve(0, 4, 9999) = 2", "curve(0, 3, 10000) = -1",
            "curve(0, 3, 9999) = -4", "curve(0, 3, 9998) = 1", "curve(0, 3, 0) = -1", "curve(0, 3, -2147483648) = -1",
            "curve(0, 3, 1) = 9998", "curve(0, 4, 0) = -1", "curve(0, 4, 1) = -4", "curve(0, 4, 2) = 9999", "curve(0, 3, 2) = -4",
            "curve(0, 3, 3) = -4", "curve(0, 3, 1) = 1");
        S.sentence("I", "a TRIP 0 .. 9,999 (0: none)", "chamber(1, 0)", "pump(0, 1)");
        S.taken("curve(0, 5, #)", 0, 9999, -1);
        // with 0 it never trips, with 1 it does at a reading of 1,000
        S.dues("reading(0) = 1000", "steps(1) = 0", "curve(0, 5, 1) = 0", "steps(1) = 1", "run(0) = 1", "curve(0, 5, 0) = 1",
            "steps(1) = 0", "curve(0, 2, 0) = 1", "curve(0, 1, 0) = 1", "curve(0, 0, 0) = -4", "set(0, 0, 0) = 1", "steps(1) = 0");
    }

    private static void weights() {
        S.sentence("I", "together: 120 at most", HEAVY);
        S.dues("ofChamber(0, 4) = 118", "tube(0, 1, 3, 0, 0) = -5", "tube(1, 0, 3, 0, 0) = -5", "tube(1, 0, 2, 0, 0) = 1",
            "ofChamber(0, 4) = 120", "tube(0, 1, 1, 0, 0) = -5", "tube(1, 0, 1, 0, 0) = -5", "ofChamber(1, 4) = 10", "undo() = 1",
            "curve(2, 1, 33) = -5", "curve(2, 1, 32) = 30", "ofChamber(0, 4) = 120");
        S.again("chamber(0, 0)", "chamber(0, 0)");
        S.repeat(10, "tube(0, 1, 12, 0, 0)");
        S.dues("count(1) = 10", "ofChamber(0, 4) = 120", "ofChamber(1, 4) = 120", "pump(0, 1) = -5", "pump(1, 1) = -5");
        S.again("chamber(0, 0)", "chamber(0, 0)");
        S.repeat(8, "tube(0, 1, 12, 0, 0)");
        S.dues("pump(0, 25) = -5", "pump(0, 24) = 0", "pump(0, 1) = -5", "pump(1, 24) = 1");
        S.sentence("I", "the C of all its TUBES, and of each of its PUMPS the greatest SPEED", HEAVY);
        // valves that are shut and pumps that stand still weigh the same; only the greatest speed weighs
        S.dues("turn(0) = 0", "ofChamber(0, 4) = 118", "run(0) = 0", "ofChamber(0, 4) = 118", "tube(0, 1, 3, 0, 0) = -5",
            "curve(0, 0, 0) = 40", "curve(0, 1, 1) = 40", "ofChamber(0, 4) = 118", "curve(0, 2, 3) = 40", "ofChamber(0, 4) = 81",
            "curve(0, 1, 5) = 1", "ofChamber(0, 4) = 83", "curve(0, 0, 40) = 0", "ofChamber(0, 4) = 118", "ofChamber(1, 4) = 8");
    }

    private static void leaksAndJoints() {
        S.sentence("I", "The LEAK: at a JOINT, 1 .. 60 strong, or none (at first)", "chamber(0, 0)", "pump(0, 1)");
        S.dues("count(5) = -1", "count(6) = 0", "reading(0) = 0");
        S.taken("leak(0, #)", 0, 60, -1);
        S.dues("leak(0, 1) = 0", "reading(0) = 1000", "leak(0, 60) = 1", "reading(0) = 60000", "leak(0, 0) = 60", "reading(0) = 0");
        S.sentence("I", "JOINTS: CHAMBERS (0 .. 4), the middles of TUBES (10 and its number)");
        S.dues("leak(0, 1) = -2", "leak(10, 1) = -2");
        S.repeat(5, "chamber(0, 0)");
        S.taken("leak(#, 1)", 0, 4, -2);
        S.dues("leak(9, 1) = -2", "leak(10, 1) = -2", "leak(14, 1) = -2");
        S.repeat(10, "tube(3, 4, 1, 0, 0)");
        S.taken("leak(#, 1)", 0, 4, -2);
        S.taken("leak(#, 1)", 10, 19, -2);
        S.dues("leak(19, 7) = 0", "count(5) = 19", "leak(4, 7) = 7", "count(5) = 4");
        S.sentence("I", "Into each CHAMBER comes its LOAD, the LEAK, if it is there", "chamber(1, 0)", "chamber(1, 0)", "pump(0, 1)", "pump(1, 1)",
            "tube(0, 1, 1, 0, 0)", "turn(0)");
        S.dues("reading(0) = 1000", "reading(1) = 1000", "leak(1, 60) = 0", "reading(0) = 1000", "reading(1) = 61000", "leak(10, 1) = 60",
            "reading(0) = 1500", "reading(1) = 1500", "leak(10, 0) = 1", "reading(0) = 1000", "reading(1) = 1000");
        S.sentence("I", "half of it from the middle of a TUBE at either end (SHUT, too)", "chamber(0, 0)", "chamber(0, 0)",
            "tube(0, 1, 1, 0, 0)", "pump(0, 2)", "pump(1, 2)", "leak(10, 1)");
        S.dues("pressure(0, 0) = 1", "pressure(0, 1) = 4", "pressure(1, 0) = 1", "pressure(1, 1) = 4", "turn(0) = 0",
            "pressure(0, 0) = 1", "pressure(0, 1) = 4", "pressure(1, 0) = 1", "pressure(1, 1) = 4", "leak(10, 60) = 1",
            "reading(0) = 15000", "reading(1) = 15000", "leak(0, 60) = 60", "reading(0) = 30000", "reading(1) = 0");
    }

    private static void netsAndEndless() {
        S.sentence("I", "a NET: CHAMBERS that hang together by OPEN TUBES");
        S.dues("count(10) = 0");
        S.repeat(5, "chamber(0, 0)");
        S.dues("count(10) = 5", "ofChamber(4, 6) = 16", "tube(4, 3, 1, 0, 0) = 0", "tube(3, 2, 1, 0, 0) = 1", "tube(2, 1, 1, 0, 0) = 2",
            "tube(1, 0, 1, 0, 0) = 3", "count(10) = 1", "ofChamber(0, 6) = 31", "ofChamber(4, 6) = 31", "turn(1) = 0",
            "count(10) = 2", "ofChamber(0, 6) = 7", "ofChamber(2, 6) = 7", "ofChamber(3, 6) = 24", "tube(3, 2, 1, 0, 0) = 4",
            "count(10) = 1", "ofChamber(4, 6) = 31");
        S.sentence("I", "In a NET without SPEED above 0 PRESSURE is ENDLESS, if anything comes into it, or else 0", "chamber(0, 63)");
        S.dues("pressure(0, 0) = 0", "pressure(0, 1) = 1", "set(0, 2, 1) = 0", "pressure(0, 0) = 0", "set(0, 1, 64) = 63",
            "pressure(0, 0) = -2", "pressure(0, 1) = -2", "set(0, 2, 0) = 1", "pressure(0, 0) = 0", "set(0, 0, 1) = 0",
            "pressure(0, 0) = -2", "set(0, 0, 0) = 1", "leak(0, 1) = 0", "pressure(0, 0) = -2", "leak(0, 0) = 1", "chamber(0, 0) = 1",
            "tube(0, 1, 1, 0, 0) = 0", "turn(0) = 0", "leak(10, 1) = 0", "pressure(0, 0) = -2", "pressure(1, 0) = -2");
        S.again("chamber(1, 0)", "chamber(0, 0)", "chamber(0, 0)", "tube(0, 1, 1, 0, 0)");
        // what comes into one chamber makes its whole net endless, and no other
        S.dues("pressure(1, 0) = -2", "pressure(2, 0) = 0", "turn(0) = 0", "pressure(0, 0) = -2", "pressure(1, 0) = 0",
            "turn(0) = 1", "pump(1, 1) = 0", "pressure(0, 0) = 2", "run(0) = 0", "pressure(0, 0) = -2", "pump(2, 40) = 1",
            "pressure(0, 0) = -2");
        // a pump that runs with a speed of 0 is none
        S.again("chamber(1, 0)", "pump(0, 1)", "curve(0, 0, 0)", "curve(0, 2, 0)");
        S.dues("pressure(0, 0) = 1", "curve(0, 4, 9) = 2", "curve(0, 3, 8) = 1", "pressure(0, 0) = -2", "set(0, 0, 0) = 1",
            "pressure(0, 0) = 0", "pressure(0, 1) = 1");
    }

    private static void stages() {
        S.sentence("I", "is s, if the PRESSURE there is below b, t from b on below c, u from c on", "chamber(29, 0)", "pump(0, 10)",
            "curve(0, 4, 5)", "curve(0, 3, 3)");
        S.dues("stage(0) = 0", "set(0, 0, 30) = 29", "stage(0) = 1", "set(0, 0, 49) = 30", "stage(0) = 1", "set(0, 0, 50) = 49",
            "stage(0) = 2", "set(0, 0, 0) = 50", "stage(0) = 0");
        S.again("chamber(30, 0)", "pump(0, 10)", "curve(0, 4, 5)", "curve(0, 3, 3)", "curve(0, 0, 0)", "curve(0, 2, 0)");
        // with t alone it agrees just from b on below c, else it is endless by s or u of 0
        S.dues("reading(0) = 3000", "stage(0) = 1", "set(0, 0, 29) = 30", "reading(0) = 99999999", "stage(0) = 2",
            "set(0, 0, 49) = 29", "reading(0) = 4900", "set(0, 0, 50) = 49", "reading(0) = 99999999", "count(12) = 1");
        S.sentence("I", "u from c on (ENDLESS: u)", "chamber(1, 0)", "pump(0, 4)", "curve(0, 0, 0)", "curve(0, 2, 0)");
        S.dues("stage(0) = 2", "pressure(0, 0) = -2", "count(12) = 1", "curve(0, 2, 1) = 0", "stage(0) = -3", "curve(0, 4, 9999) = 2",
            "curve(0, 3, 9998) = 1", "stage(0) = -3", "count(12) = 0");
        S.sentence("I", "which of the three each PUMP that RUNS has (others: 0)", "chamber(9, 0)", "pump(0, 1)", "pump(0, 2)");
        S.dues("stage(0) = 2", "stage(1) = 2", "run(1) = 0", "stage(0) = 2", "stage(1) = 0", "count(12) = 1", "run(0) = 0",
            "stage(0) = 0", "reading(0) = 99999999", "count(12) = 1");
        // 12 by 6 is 2, by 2 is 6, by 1 is 12: each stage agrees with itself
        S.sentence("I", "of all that agree with the PRESSURES that they give the first", "chamber(12, 0)", "pump(0, 6)", "curve(0, 4, 9)",
            "curve(0, 3, 5)", "curve(0, 1, 2)", "curve(0, 2, 1)");
        S.dues("count(12) = 3", "stage(0) = 0", "curve(0, 0, 1) = 6", "count(12) = 2", "stage(0) = 1", "reading(0) = 6000",
            "curve(0, 1, 6) = 2", "count(12) = 1", "stage(0) = 2", "reading(0) = 12000");
        S.sentence("I", "(PUMP 0's least first, then PUMP 1's, and on)", "chamber(22, 0)", "chamber(11, 0)", "tube(0, 1, 6, 0, 0)",
            "pump(0, 21)", "curve(0, 4, 5)", "curve(0, 3, 4)", "curve(0, 1, 0)", "curve(0, 2, 24)", "pump(1, 9)", "curve(1, 1, 25)",
            "curve(1, 2, 2)");
        // (0, 2) and (1, 1) agree; built the other way round they are (2, 0) and (1, 1)
        S.dues("count(12) = 2", "stage(0) = 0", "stage(1) = 2");
        S.again("chamber(22, 0)", "chamber(11, 0)", "tube(0, 1, 6, 0, 0)", "pump(1, 9)", "curve(0, 1, 25)", "curve(0, 2, 2)",
            "pump(0, 21)", "curve(1, 4, 5)", "curve(1, 3, 4)", "curve(1, 1, 0)", "curve(1, 2, 24)");
        S.dues("count(12) = 2", "stage(0) = 1", "stage(1) = 1");
        threeApart();
        S.sentence("I", "Without any it HUNTS: no PRESSURE is told", Script.HUNTING);
        S.dues("count(11) = 1", "count(12) = 0", "chamber(1, 0) = 1", "pump(1, 1) = 1", "pressure(0, 0) = -3", "pressure(1, 1) = -3",
            "reading(1) = -3", "stage(1) = -3", "drawn(1, 0) = -3", "run(0) = 0", "count(11) = 0", "reading(1) = 1000",
            "reading(0) = 99999999");
    }

    /** Three chambers apart, the pump at each with three stages that agree: all 27 rows do. */
    private static void threeApart() {
        S.again();
        for (int i = 0; i < 3; i++) {
            S.calls("chamber(12, 0)", "pump(" + i + ", 6)", "curve(" + i + ", 4, 9)", "curve(" + i + ", 3, 5)", "curve(" + i + ", 1, 2)",
                "curve(" + i + ", 2, 1)");
        }
        S.dues("count(12) = 27", "stage(0) = 0", "stage(1) = 0", "stage(2) = 0", "curve(1, 0, 1) = 6", "count(12) = 18", "stage(1) = 1",
            "curve(2, 1, 1) = 2", "count(12) = 12", "stage(2) = 0", "run(0) = 0", "count(12) = 4");
    }

    private static void readings() {
        S.sentence("I", "1,000 times PRESSURE, cut", "chamber(2, 0)", "pump(0, 3)");
        S.dues("reading(0) = 666", "set(0, 0, 3) = 2", "reading(0) = 1000", "set(0, 0, 0) = 3", "reading(0) = 0");
        // 1/3320 is above 0, but is read as 0
        S.again("chamber(1, 0)", "chamber(0, 0)", "tube(0, 1, 1, 0, 0)", "pump(0, 40)", "pump(0, 40)", "pump(1, 40)");
        S.dues("pressure(1, 0) = 1", "pressure(1, 1) = 3320", "reading(1) = 0", "pressure(0, 0) = 41", "pressure(0, 1) = 3320",
            "reading(0) = 12");
        S.sentence("I", "99,999,999, if that is more, or ENDLESS", LONG_ROW);
        // the most that can come of numbers that there can be
        S.dues("leak(0, 60) = 0", "pressure(0, 0) = 12315", "pressure(0, 1) = 1", "reading(0) = 12315000", "run(0) = 0",
            "reading(0) = 99999999", "reading(4) = 99999999", "pressure(0, 0) = -2");
    }

    private static void betweenAndReduced() {
        S.sentence("II", "by OPEN TUBES alone (no PUMPS, nothing comes in but at the first, nothing goes out but at the second)",
            Script.THREE_IN_A_ROW);
        S.dues("between(0, 2, 0) = 4", "between(0, 2, 1) = 3", "run(0) = 0", "pump(1, 40) = 1", "set(1, 0, 99) = 0", "leak(10, 60) = 0",
            "between(0, 2, 0) = 4", "between(0, 2, 1) = 3", "between(2, 0, 0) = 4", "turn(1) = 0", "between(0, 2, 0) = -1");
        S.sentence("II", "two that join the same CHAMBERS become one, its C both together", "chamber(0, 0)", "chamber(0, 0)");
        S.repeat(5, "tube(0, 1, 12, 0, 0)");
        S.repeat(5, "tube(1, 0, 12, 0, 0)");
        S.dues("reduced(0, 1, 0) = 1", "reduced(0, 1, 1) = 120", "reduced(0, 1, 2) = 1", "reduced(1, 0, 1) = 120", "turn(9) = 0",
            "reduced(0, 1, 1) = 108");
        S.sentence("II", "a CHAMBER that is neither of the two and at which just one is: that goes", Script.THREE_IN_A_ROW);
        S.dues("reduced(0, 1, 0) = 1", "reduced(0, 1, 1) = 2", "reduced(1, 2, 0) = 1", "reduced(1, 2, 1) = 4", "chamber(0, 0) = 3",
            "reduced(0, 3, 0) = 0", "reduced(0, 3, 1) = 0", "reduced(0, 3, 2) = 0", "tube(3, 2, 1, 0, 0) = 2", "reduced(0, 1, 0) = 1",
            "reduced(0, 1, 1) = 2", "tube(2, 3, 1, 0, 0) = 3", "reduced(0, 1, 0) = 1");
        S.sentence("II", "at which just two are, to unlike CHAMBERS: these become one, C one times the other by their sum (not cut)",
            Script.THREE_IN_A_ROW);
        S.dues("reduced(0, 2, 0) = 1", "reduced(0, 2, 1) = 4", "reduced(0, 2, 2) = 3");
        S.again("chamber(0, 0)", "chamber(0, 0)", "chamber(0, 0)", "chamber(0, 0)", "chamber(0, 0)", "tube(0, 1, 1, 0, 0)",
            "tube(1, 2, 1, 0, 0)", "tube(2, 3, 1, 0, 0)", "tube(3, 4, 1, 0, 0)");
        S.dues("reduced(0, 4, 1) = 1", "reduced(0, 4, 2) = 4", "tube(4, 0, 12, 0, 0) = 4", "reduced(0, 4, 1) = 49",
            "reduced(0, 4, 2) = 4", "turn(0) = 0", "reduced(0, 4, 0) = 1", "reduced(0, 4, 1) = 12");
        S.sentence("II", "again and again, as long as anything can be done", "chamber(0, 0)", "chamber(0, 0)", "chamber(0, 0)", "chamber(0, 0)",
            "chamber(0, 0)", "tube(0, 4, 2, 0, 0)", "tube(4, 3, 2, 0, 0)", "tube(4, 3, 1, 0, 0)", "tube(3, 2, 3, 0, 0)", "tube(2, 1, 3, 0, 0)",
            "tube(4, 2, 3, 0, 0)");
        // 1 with 2 are 3, with 3 behind it 3/2, beside 3 that is 9/2; 2, 9/2 and 3 in a row are 18/19
        S.dues("reduced(0, 1, 0) = 1", "reduced(0, 1, 1) = 18", "reduced(0, 1, 2) = 19", "between(0, 1, 0) = 18", "between(0, 1, 1) = 19",
            "tube(3, 1, 1, 0, 0) = 6", "reduced(0, 1, 0) = 6", "reduced(0, 1, 1) = 0", "turn(5) = 0", "reduced(0, 1, 0) = 1");
        S.sentence("II", "(What is left in the end is the same, whatever is done first.)", Script.BRIDGE);
        S.dues("reduced(0, 3, 0) = 5", "reduced(0, 3, 1) = 0", "reduced(0, 3, 2) = 0", "reduced(0, 1, 0) = 1", "reduced(0, 1, 1) = 8",
            "reduced(0, 1, 2) = 5", "reduced(1, 0, 1) = 8");
    }

    private static void suspects() {
        S.sentence("II", "each JOINT and each strength 1 .. 60", "chamber(0, 0)", "pump(0, 1)");
        S.dues("suspects(0) = 60", "note(0, 0) = -1", "suspects(0) = 0", "note(0, 1000) = 0", "suspects(0) = 1", "suspects(2) = 1",
            "note(0, 60000) = 1000", "suspects(0) = 1", "suspects(2) = 60", "note(0, 61000) = 60000", "suspects(0) = 0",
            "note(0, 59999) = 61000", "suspects(0) = 0", "note(0, 60001) = 59999", "suspects(0) = 0");
        S.again();
        S.repeat(5, "chamber(0, 0)");
        S.repeat(10, "tube(0, 1, 1, 0, 0)");
        S.dues("suspects(0) = 900", "suspects(3) = 15", "suspects(1) = 0", "suspects(2) = 1", "suspects(4) = 0");
        S.sentence("II", "with the LEAK as it is aside", "chamber(0, 0)", "pump(0, 1)", "leak(0, 60)");
        S.dues("note(0, 60000) = -1", "suspects(0) = 1", "suspects(2) = 60", "note(0, 59000) = 60000", "suspects(2) = 59",
            "count(6) = 60", "reading(0) = 60000");
        S.sentence("II", "by which the READING of each CHAMBER for which one is NOTED would be that (HUNTS: none)", Script.HUNTING);
        // below 20 coming in it hunts, from there on it is 5 and more
        S.dues("suspects(0) = 53", "suspects(2) = 8", "note(0, 5000) = -1", "suspects(0) = 1", "suspects(2) = 8", "suspects(4) = 1",
            "note(0, 4999) = 5000", "suspects(0) = 0", "suspects(4) = 0");
        S.again(Script.THREE_IN_A_ROW);
        S.dues("leak(2, 1) = 0", "noteAll() = 3", "suspects(0) = 1", "note(0, -1) = 10700", "note(1, -1) = 5700", "suspects(0) = 5",
            "note(2, -1) = 3200", "suspects(0) = 300");
        S.sentence("II", "NOTED READINGS are told by hand, or taken as they are now", Script.THREE_IN_A_ROW);
        S.dues("note(0, 7) = -1", "ofChamber(0, 5) = 7", "noteAll() = 3", "ofChamber(0, 5) = 10500", "set(0, 0, 99) = 10",
            "ofChamber(0, 5) = 10500", "count(7) = 3");
    }

    private static void probes() {
        S.sentence("II", "of the first 20 SUSPECTS (by JOINTS, then by strengths)", Script.THREE_IN_A_ROW);
        // nothing is noted: 300 suspects, the first 20 alike by any tube
        S.dues("suspects(0) = 300", "probe(0) = 0", "probe(1) = 20");
        // without a pump all is endless, open or shut: strengths 1 .. 20 at joint 0 come first
        S.again("chamber(0, 0)", "chamber(0, 0)", "tube(0, 1, 1, 0, 0)", "noteAll()", "leak(0, 60)", "noteAll()", "turn(0)", "turn(0)");
        S.dues("suspects(0) = 180", "probe(1) = 20", "pump(1, 1) = 0", "suspects(0) = 0", "probe(1) = -1");
        S.sentence("II", "those by which all these are alike belong together (those by which it HUNTS, too)", "chamber(0, 0)",
            "chamber(0, 0)", "pump(1, 4)", "curve(0, 4, 9)", "curve(0, 3, 5)", "curve(0, 0, 2)", "tube(0, 1, 1, 0, 0)", "turn(0)",
            "note(1, 0)");
        // at joint 0 strengths 1 .. 20, the tube open: readings apart for 1 .. 9, 10 .. 19 hunt, 20 is 5
        S.dues("suspects(0) = 60", "suspects(1) = 0", "probe(0) = 0", "probe(1) = 10");
        S.sentence("II", "READINGS of all CHAMBERS that are NOTED", "chamber(0, 0)", "chamber(0, 0)", "tube(0, 1, 1, 0, 0)", "tube(0, 1, 1, 0, 0)",
            "pump(1, 4)", "curve(0, 2, 1)", "chamber(9, 0)", "pump(2, 1)", "noteAll()", "reading(2)", "undo()", "undo()", "undo()");
        // nothing is noted any more: alike by any stage of the pump, and a chamber that is undone is not asked
        S.dues("count(7) = 0", "count(0) = 2", "suspects(0) = 240", "tried(0, 7, 1) = 1750", "tried(0, 8, 1) = 8000", "probe(0) = 0", "probe(1) = 20",
            "note(1, 750) = -1", "suspects(0) = 4", "probe(0) = 0", "probe(1) = 4", "note(1, -1) = 750", "note(0, 2250) = -1", "suspects(0) = 1",
            "probe(1) = 1");
        S.sentence("II", "were a TUBE turned (OPEN, if it is SHUT, SHUT, if it is OPEN)", Script.THREE_IN_A_ROW);
        S.dues("note(2, 4000) = -1", "probe(0) = 0", "probe(1) = 3", "turn(0) = 0", "note(2, 2000) = 4000", "probe(0) = 1",
            "probe(1) = 2");
        // only tube 2, which is shut, tells the two apart once it is open
        S.again(Script.THREE_IN_A_ROW);
        S.dues("tube(0, 2, 1, 0, 0) = 2", "turn(2) = 0", "note(0, 12300) = -1", "suspects(0) = 2", "probe(0) = 2", "probe(1) = 1",
            "ofTube(2, 3) = 0");
        S.sentence("II", "a TUBE LEAVES as many as belong together at most", Script.THREE_IN_A_ROW);
        S.dues("leak(0, 3) = 0", "noteAll() = 3", "suspects(0) = 1", "probe(0) = 0", "probe(1) = 1");
    }

    private static void parts() {
        S.sentence("II", "the fewest OPEN TUBES that, SHUT, let them hang together no more", "chamber(0, 0)", "chamber(0, 0)");
        S.repeat(10, "tube(0, 1, 1, 0, 0)");
        S.dues("parts(0, 1, 0) = 10", "parts(0, 1, 1) = 1023", "turn(0) = 0", "parts(0, 1, 0) = 9", "parts(0, 1, 1) = 1022");
        S.repeat(1, "turn(9)");
        S.dues("parts(0, 1, 1) = 510", "chamber(0, 0) = 2", "parts(0, 2, 0) = -1");
        S.sentence("II", "of like many those that are less as bits", Script.BRIDGE);
        S.dues("parts(0, 3, 0) = 2", "parts(0, 3, 1) = 3", "parts(3, 0, 1) = 3", "parts(1, 2, 0) = 3", "parts(1, 2, 1) = 21");
        // tubes 0 and 1 near chamber 2, so that the less bits lie at the second chamber
        S.again("chamber(0, 0)", "chamber(0, 0)", "chamber(0, 0)", "tube(1, 2, 1, 0, 0)", "tube(1, 2, 1, 0, 0)", "tube(0, 1, 1, 0, 0)",
            "tube(0, 1, 1, 0, 0)");
        S.dues("parts(0, 2, 1) = 3", "parts(2, 0, 1) = 3", "parts(0, 1, 1) = 12", "turn(3) = 0", "parts(0, 2, 1) = 4", "turn(1) = 0",
            "parts(0, 2, 1) = 1");
    }

    private static void watchesInSteps() {
        S.sentence("III", "WATCH by WATCH (by PRESSURES as they are by then)", "chamber(10, 0)", "pump(0, 5)", "watch(1, 0, 2001, 2, 0)",
            "watch(0, 0, 99999998, 3, 0)", "watch(0, 0, 99999998, 3, 0)");
        S.dues("lookout() = 1", "steps(1) = 2", "ofWatch(0, 5) = 1", "ofWatch(1, 5) = 1", "ofWatch(2, 5) = 0", "log(0, 0) = 2000");
        S.sentence("III", "0 its READING is above n; 1 it is below n; 2 TIME is n or more (x is not asked)", "chamber(10, 0)", "pump(0, 5)",
            "watch(0, 0, 1999, 4, 0)", "watch(0, 0, 2000, 4, 0)", "watch(1, 0, 2000, 4, 0)", "watch(1, 0, 2001, 4, 0)",
            "watch(2, 9, 1, 4, 0)", "watch(2, 9, 0, 4, 0)");
        S.dues("lookout() = 41", "steps(1) = 0", "lookout() = 57");
        S.again("chamber(1, 0)", "watch(0, 0, 99999999, 4, 0)", "watch(0, 0, 99999998, 4, 0)", "watch(1, 0, 99999999, 4, 0)",
            "watch(1, 0, 0, 4, 0)", "watch(2, 0, 99999999, 4, 0)", "watch(0, 0, 0, 4, 0)");
        S.dues("lookout() = 34", "set(0, 0, 0) = 1", "lookout() = 4");
        S.sentence("III", "When it HUNTS 0, 1 are not so", Script.HUNTING);
        S.calls("watch(0, 0, 0, 2, 0)", "watch(1, 0, 99999999, 2, 0)", "watch(2, 0, 1, 2, 0)");
        S.dues("lookout() = 0", "steps(1) = 0", "ofPump(0, 1) = 1", "lookout() = 4", "steps(1) = 1", "ofPump(0, 1) = 0", "ofWatch(2, 5) = 1");
        S.sentence("III", "one that is so already changes nothing (it does not count as DONE)", "chamber(0, 64)", "chamber(0, 0)",
            "tube(0, 1, 1, 0, 0)", "pump(0, 1)", "watch(2, 0, 0, 1, 0)", "watch(2, 0, 0, 3, 0)", "watch(2, 0, 0, 4, 0)");
        S.dues("lookout() = 7", "steps(1) = 0", "ofWatch(0, 5) = 0", "ofWatch(1, 5) = 0", "ofWatch(2, 5) = 0", "turn(0) = 0", "run(0) = 0",
            "set(0, 2, 9) = 0", "steps(2) = 3", "ofTube(0, 3) = 1", "ofPump(0, 1) = 1", "ofChamber(0, 2) = 0", "ofWatch(0, 5) = 1",
            "ofWatch(1, 5) = 1", "ofWatch(2, 5) = 1", "ofChamber(0, 1) = 64");
        S.again("chamber(0, 64)", "chamber(0, 0)", "tube(0, 1, 1, 0, 0)", "pump(0, 1)", "watch(2, 0, 0, 0, 0)", "watch(2, 0, 0, 2, 0)");
        S.dues("steps(1) = 2", "ofTube(0, 3) = 0", "ofPump(0, 1) = 0", "steps(40) = 0", "ofWatch(0, 5) = 1", "ofWatch(1, 5) = 1");
    }

    private static void trips() {
        S.sentence("III", "the READING at which is TRIP times 1,000 or more, does not RUN any more", "chamber(99, 0)", "pump(0, 1)",
            "curve(0, 5, 99)");
        S.dues("set(0, 0, 98) = 99", "steps(1) = 0", "ofPump(0, 1) = 1", "set(0, 0, 99) = 98", "steps(1) = 1", "ofPump(0, 1) = 0",
            "ofPump(0, 8) = 1", "steps(1) = 0", "ofPump(0, 8) = 1");
        // 2 less a bit is read as 1,999, which is not enough
        S.again("chamber(99, 0)", "pump(0, 40)", "curve(0, 5, 3)", "pump(0, 9)");
        S.dues("reading(0) = 2020", "steps(1) = 0", "curve(0, 5, 2) = 3", "set(0, 0, 97) = 99", "reading(0) = 1979", "steps(1) = 0",
            "set(0, 0, 98) = 97", "reading(0) = 2000", "steps(1) = 1");
        // the greatest trip there can be, at a pump that draws nothing: 5 * 801 + 4 * 801 + 3 * 801 + 2 * 193 + 1
        S.again(LONG_ROW);
        S.calls("set(3, 2, 2)", "set(3, 1, 3008)", "set(4, 2, 0)", "set(4, 0, 1)", "pump(0, 1)", "curve(1, 2, 0)", "curve(1, 1, 0)",
            "curve(1, 5, 9999)");
        S.dues("reading(0) = 9999000", "trip(0) = 1", "trip(1) = 1", "set(4, 0, 0) = 1", "reading(0) = 9998000", "trip(1) = -1",
            "steps(1) = 0", "undo() = 10", "undo() = 4", "steps(1) = 1", "ofPump(1, 8) = 1");
        S.sentence("III", "(b) By PRESSURES as they are then", "chamber(4, 0)", "pump(0, 1)", "pump(0, 3)", "curve(0, 5, 4)", "watch(2, 0, 1, 2, 1)",
            "watch(0, 0, 3999, 3, 1)");
        // the first watch stops pump 1, the second starts it again: at the end of (a) it is 1, no trip
        S.dues("steps(2) = 2", "ofPump(0, 1) = 1", "log(0, 0) = 1000", "drop(1) = 1", "steps(1) = 2", "ofPump(0, 8) = 1", "log(0, 0) = 99999999",
            "log(0, 1) = 1000");
        S.sentence("III", "(c) The READINGS are put into the LOG", "chamber(4, 640)", "pump(0, 1)", "pump(0, 3)", "curve(1, 5, 6)", "set(0, 2, 2)");
        // 4 and 20 by 4 are 6, so pump 1 trips, and 24 are logged, by the gas as it was ahead of (d)
        S.dues("reading(0) = 6000", "steps(1) = 1", "log(0, 0) = 24000", "reading(0) = 23000");
        S.sentence("III", "(all at once; not, when it HUNTS)", "chamber(12, 0)", "pump(0, 1)", "pump(0, 2)", "pump(0, 3)", "curve(0, 5, 2)",
            "curve(1, 5, 2)", "curve(2, 5, 3)");
        // by 6 the pressure is 2: two trip at once; then it is 4, and the third goes one step later
        S.dues("steps(1) = 2", "ofPump(0, 1) = 0", "ofPump(1, 1) = 0", "ofPump(2, 1) = 1", "log(0, 0) = 4000", "steps(1) = 1",
            "ofPump(2, 1) = 0", "log(0, 0) = 99999999");
        S.again(Script.HUNTING);
        S.dues("curve(0, 5, 1) = 0", "steps(40) = 0", "ofPump(0, 1) = 1", "ofPump(0, 8) = 0", "trip(0) = -1");
        S.sentence("III", "each PUMP that RUNS and has a TRIP", "chamber(12, 0)", "pump(0, 1)", "pump(0, 1)", "curve(0, 5, 1)", "run(0)");
        S.dues("reading(0) = 12000", "steps(3) = 0", "run(0) = 1", "steps(3) = 1", "ofPump(0, 8) = 1", "ofPump(1, 8) = 0", "ofPump(1, 1) = 1");
    }

    private static void logAndBake() {
        S.sentence("III", "(HUNTS: -3 each)", Script.HUNTING);
        S.dues("chamber(0, 0) = 1", "steps(1) = 0", "log(0, 0) = -3", "log(1, 0) = -3", "chamber(0, 0) = 2", "log(2, 0) = -1");
        S.sentence("III", "the last 40 are kept", "chamber(0, 0)", "pump(0, 1)");
        // the step at TIME t is logged as 1,000 t; each row of 40 is looked at over three rounds
        for (int time = 0; time < 122; time++) {
            S.due("count(8)", Math.min(time, 40));
            S.calls("set(0, 0, " + time % 100 + ")", "steps(1)");
            boolean whole = time == 0 || time == 38 || time == 39 || time == 40 || time == 79 || time == 80 || time == 121;
            for (int ago = 0; whole && ago <= 41; ago++) {
                boolean kept = ago < 40 && ago <= time;
                S.due("log(0, " + ago + ")", kept ? 1000 * ((time - ago) % 100) : -1);
            }
        }
        S.sentence("III", "GAS of each CHAMBER is less by GAS times HEAT by 64", "chamber(0, 4999)", "chamber(0, 63)", "chamber(0, 64)",
            "chamber(0, 7)", "chamber(0, 4999)", "set(0, 2, 9)", "set(1, 2, 1)", "set(2, 2, 1)", "set(3, 2, 9)");
        S.dues("steps(1) = 0", "ofChamber(0, 1) = 4297", "ofChamber(1, 1) = 63", "ofChamber(2, 1) = 63", "ofChamber(3, 1) = 7",
            "ofChamber(4, 1) = 4999", "steps(1) = 0", "ofChamber(0, 1) = 3693", "ofChamber(2, 1) = 63");
        S.repeat(3, "steps(40)");
        S.dues("ofChamber(0, 1) = 7", "ofChamber(4, 1) = 4999");
        S.sentence("III", "TIME (0 at first, 9,999 at most) is 1 more");
        S.dues("count(4) = 0", "steps(1) = 0", "count(4) = 1", "steps(38) = 0", "count(4) = 39");
        S.repeat(249, "steps(40)");
        S.dues("count(4) = 9999", "steps(1) = -4", "count(4) = 9999", "image(0) = 9999", "undo() = 10", "count(4) = 9959",
            "steps(40) = 0", "count(4) = 9999", "steps(40) = -4", "count(8) = 40");
    }

    private static void constants() {
        S.sentence("III", "The constants: `NONE = -1`: There is none.", "chamber(0, 0)");
        if (VacuumDesk.NONE != -1) S.say("NONE is " + VacuumDesk.NONE);
        S.dues("ofChamber(0, 5) = " + VacuumDesk.NONE, "count(5) = " + VacuumDesk.NONE, "note(0, " + VacuumDesk.NONE + ") = " + VacuumDesk.NONE);
    }

    public static void main(String[] args) {
        constants();
        howMany();
        loads();
        tubesAndPieces();
        pumps();
        weights();
        leaksAndJoints();
        netsAndEndless();
        stages();
        readings();
        betweenAndReduced();
        suspects();
        probes();
        parts();
        watchesInSteps();
        trips();
        logAndBake();
        S.close("TermsBoundaryTest");
    }
}
