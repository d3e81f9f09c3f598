/** Each sentence of promises 18 to 43 (what is asked) that names a boundary case. */
public final class AsksBoundaryTest {
    private static final long NO_FLOW = Integer.MIN_VALUE;
    private static final Script S = new Script();

    /** Two chambers, feeds 10 and 6, C 2 between them, a pump of 4 at the second: 9 and 4. */
    private static final String[] TWO = {"chamber(10, 0)", "chamber(6, 0)", "tube(0, 1, 2, 0, 0)", "pump(1, 4)"};

    /** A chamber with all the weight it may have, 50 coming in. */
    private static final String[] FULL = {"chamber(50, 0)", "pump(0, 40)", "pump(0, 40)", "pump(0, 40)"};

    /** 10 come in, each degree of heat brings 10 more at first, 10 go out by each unit of pressure. */
    private static final String[] BAKED = {"chamber(10, 640)", "pump(0, 10)"};

    private AsksBoundaryTest() {
    }

    private static void five() {
        S.repeat(5, "chamber(1, 0)");
    }

    private static void pressures() {
        S.sentence("Promise 18", "PRESSURE of a CHAMBER in lowest terms: the upper number (what 0), the lower one (1).", TWO);
        S.dues("pressure(0, 0) = 9", "pressure(0, 1) = 1", "pressure(1, 0) = 4", "set(0, 0, 0) = 10", "set(1, 0, 0) = 6", "pressure(0, 0) = 0",
            "pressure(0, 1) = 1", "set(0, 0, 6) = 0", "pressure(1, 0) = 3", "pressure(1, 1) = 2", "leak(10, 1) = 0", "pressure(1, 0) = 7",
            "pressure(1, 1) = 4", "pressure(0, 0) = 5", "pressure(0, 1) = 1");
        S.sentence("Promise 18", "-2 ENDLESS, -3 it HUNTS. NONE for others.", Script.THREE_IN_A_ROW);
        S.answered("pressure(#, 0)", 0, 2, -1);
        S.answered("pressure(#, 1)", 0, 2, -1);
        S.answered("pressure(0, #)", 0, 1, -1);
        S.dues("run(0) = 0", "pressure(0, 0) = -2", "pressure(2, 1) = -2", "pressure(3, 0) = -1", "pressure(0, 2) = -1", "pressure(0, -1) = -1");
        S.again(Script.HUNTING);
        S.dues("pressure(0, 0) = -3", "pressure(0, 1) = -3", "pressure(0, 2) = -1", "pressure(0, -1) = -1", "pressure(1, 0) = -1",
            "pressure(-1, 0) = -1");
        S.sentence("Promise 19", "READING of a CHAMBER. -3 it HUNTS. NONE for others.", Script.THREE_IN_A_ROW);
        S.answered("reading(#)", 0, 2, -1);
        S.again();
        five();
        S.answered("reading(#)", 0, 4, -1);
        S.again(Script.HUNTING);
        S.dues("reading(0) = -3", "reading(1) = -1", "reading(-1) = -1", "run(0) = 0", "reading(0) = 99999999");
    }

    private static void flows() {
        S.sentence("Promise 20", "What flows in a TUBE (SHUT: 0), in lowest terms (below 0: from its second CHAMBER to its first;",
            "chamber(5, 0)", "chamber(0, 0)", "tube(0, 1, 2, 0, 0)", "tube(1, 0, 4, 0, 0)", "pump(1, 1)", "tube(1, 0, 1, 0, 0)", "turn(2)");
        S.dues("flow(0, 0) = 5", "flow(0, 1) = 3", "flow(1, 0) = -10", "flow(1, 1) = 3", "flow(2, 0) = 0", "flow(2, 1) = 1", "set(0, 0, 0) = 5",
            "flow(0, 0) = 0", "flow(0, 1) = 1", "flow(1, 0) = 0", "flow(1, 1) = 1");
        S.sentence("Promise 20", "half a LEAK in its middle is not asked", "chamber(0, 0)", "chamber(0, 0)", "tube(0, 1, 2, 0, 0)",
            "pump(1, 4)", "leak(10, 3)");
        S.dues("flow(0, 0) = 3", "flow(0, 1) = 2", "turn(0) = 0", "flow(0, 0) = 0", "flow(0, 1) = 1");
        S.sentence("Promise 20", "Integer.MIN_VALUE: it HUNTS (SHUT ones, too), ENDLESS at its ends (not of SHUT ones), others.", TWO);
        S.answered("flow(#, 0)", 0, 0, NO_FLOW);
        S.answered("flow(#, 1)", 0, 0, NO_FLOW);
        S.answered("flow(0, #)", 0, 1, NO_FLOW);
        S.dues("run(0) = 0", "flow(0, 0) = -2147483648", "flow(0, 1) = -2147483648", "turn(0) = 0", "flow(0, 0) = 0", "flow(0, 1) = 1",
            "flow(0, 2) = -2147483648", "flow(1, 0) = -2147483648", "set(0, 0, 0) = 10", "set(1, 0, 0) = 6", "turn(0) = 1", "flow(0, 0) = 0",
            "flow(0, 1) = 1");
        S.repeat(9, "tube(0, 1, 1, 0, 0)");
        S.answered("flow(#, 0)", 0, 9, NO_FLOW);
        S.again(Script.HUNTING);
        S.dues("chamber(0, 0) = 1", "chamber(0, 0) = 2", "tube(1, 2, 1, 0, 0) = 0", "flow(0, 0) = -2147483648", "turn(0) = 0",
            "flow(0, 0) = -2147483648", "flow(0, 1) = -2147483648", "run(0) = 0", "flow(0, 0) = 0");
    }

    private static void drawnAndStages() {
        S.sentence("Promise 21", "What goes out by a PUMP (0, if it does not RUN), in lowest terms", Script.THREE_IN_A_ROW);
        S.dues("drawn(0, 0) = 15", "drawn(0, 1) = 1", "pump(2, 4) = 1", "drawn(0, 0) = 25", "drawn(0, 1) = 3", "drawn(1, 0) = 20", "drawn(1, 1) = 3",
            "run(1) = 0", "drawn(1, 0) = 0", "drawn(1, 1) = 1", "run(0) = 0", "drawn(0, 0) = 0", "drawn(0, 1) = 1");
        // a speed of 0 in a net with another pump draws 0
        S.again("chamber(9, 0)", "pump(0, 1)", "pump(0, 1)", "curve(1, 2, 0)");
        S.dues("reading(0) = 9000", "drawn(1, 0) = 0", "drawn(1, 1) = 1", "drawn(0, 0) = 9", "stage(1) = 2");
        S.sentence("Promise 21", "-3 it HUNTS (also if it does not RUN), -2 ENDLESS (its SPEED is 0). NONE for others.", Script.HUNTING);
        S.dues("drawn(0, 0) = -3", "drawn(0, 1) = -3", "pump(0, 1) = 1", "run(1) = 0", "drawn(1, 0) = -3", "drawn(1, 1) = -3", "drawn(0, 2) = -1",
            "drawn(2, 0) = -1", "drawn(-1, 0) = -1");
        S.again("chamber(1, 0)", "pump(0, 4)", "curve(0, 0, 0)", "curve(0, 2, 0)");
        S.dues("drawn(0, 0) = -2", "drawn(0, 1) = -2", "drawn(0, 2) = -1", "run(0) = 0", "pressure(0, 0) = -2", "drawn(0, 0) = 0", "drawn(0, 1) = 1",
            "run(0) = 1", "set(0, 0, 0) = 1", "drawn(0, 0) = 0", "drawn(0, 1) = 1");
        S.again("chamber(0, 0)", "pump(0, 1)", "pump(0, 1)", "pump(0, 1)");
        S.answered("drawn(#, 0)", 0, 2, -1);
        S.answered("drawn(#, 1)", 0, 2, -1);
        S.answered("drawn(0, #)", 0, 1, -1);
        S.sentence("Promise 22", "STAGE of a PUMP (0 .. 2). -3 it HUNTS. NONE for others.", "chamber(0, 0)", "pump(0, 1)", "pump(0, 1)",
            "pump(0, 1)");
        S.answered("stage(#)", 0, 2, -1);
        S.dues("stage(0) = 0", "leak(0, 3) = 0", "stage(2) = 1", "leak(0, 6) = 3", "stage(2) = 2", "run(2) = 0", "stage(2) = 0");
        S.again(Script.HUNTING);
        S.dues("stage(0) = -3", "pump(0, 1) = 1", "run(1) = 0", "stage(1) = -3", "stage(2) = -1", "stage(-1) = -1");
    }

    private static void betweenAndReduced() {
        S.sentence("Promise 23", "NONE (they do not hang together; one and the same; others).", Script.THREE_IN_A_ROW);
        S.answered("between(0, #, 0)", 1, 2, -1);
        S.answered("between(#, 2, 1)", 0, 1, -1);
        S.answered("between(0, 2, #)", 0, 1, -1);
        S.dues("between(0, 0, 0) = -1", "between(2, 2, 1) = -1", "between(3, 3, 0) = -1", "chamber(0, 0) = 3", "between(0, 3, 0) = -1",
            "tube(0, 3, 1, 0, 0) = 2", "between(3, 2, 0) = 4", "between(3, 2, 1) = 7", "turn(2) = 0", "between(3, 2, 0) = -1");
        S.sentence("Promise 23", "BETWEEN two CHAMBERS, in lowest terms: the upper number (what 0), the lower one (1).", "chamber(0, 0)",
            "chamber(0, 0)");
        S.repeat(10, "tube(0, 1, 12, 0, 0)");
        S.dues("between(0, 1, 0) = 120", "between(0, 1, 1) = 1");
        S.sentence("Promise 24", "how many are left (what 0); is it one alone and joins these two, its C in lowest terms, the upper number (1), "
            + "the lower one (2; both 0, if not so).", Script.BRIDGE);
        S.dues("reduced(0, 3, 0) = 5", "reduced(0, 3, 1) = 0", "reduced(0, 3, 2) = 0", "turn(4) = 0", "reduced(0, 3, 0) = 1", "reduced(0, 3, 1) = 1",
            "reduced(0, 3, 2) = 1", "chamber(0, 0) = 4", "reduced(0, 4, 0) = 0", "reduced(0, 4, 1) = 0", "reduced(0, 4, 2) = 0");
        // six tubes among 1 .. 4 hold together without chamber 0, whatever hangs there
        S.again();
        five();
        for (int a = 1; a < 5; a++) for (int b = a + 1; b < 5; b++) S.call("tube(" + a + ", " + b + ", 1, 0, 0)");
        S.dues("reduced(0, 1, 0) = 6", "reduced(0, 1, 1) = 0", "reduced(0, 1, 2) = 0", "reduced(1, 2, 0) = 6", "reduced(1, 2, 1) = 0",
            "turn(5) = 0", "reduced(1, 2, 0) = 1", "reduced(1, 2, 1) = 2", "reduced(1, 2, 2) = 1", "reduced(3, 4, 0) = 5", "turn(5) = 1");
        for (int b = 1; b < 5; b++) S.call("tube(0, " + b + ", 1, 0, 0)");
        S.dues("reduced(0, 1, 0) = 10", "reduced(0, 1, 1) = 0", "between(0, 1, 0) = 5", "between(0, 1, 1) = 2");
        S.sentence("Promise 24", "NONE (one and the same; others).", Script.THREE_IN_A_ROW);
        S.answered("reduced(0, #, 0)", 1, 2, -1);
        S.answered("reduced(#, 2, 0)", 0, 1, -1);
        S.answered("reduced(0, 2, #)", 0, 2, -1);
        S.dues("reduced(1, 1, 0) = -1", "reduced(3, 3, 0) = -1", "turn(0) = 0", "reduced(0, 2, 0) = 0", "reduced(0, 2, 1) = 0");
    }

    private static void suspects() {
        S.sentence("Promise 25", "the first JOINT (1), the least strength at it (2), how many JOINTS (3)", Script.THREE_IN_A_ROW);
        S.answered("suspects(#)", 0, 4, -1);
        S.dues("note(2, 4000) = -1", "suspects(0) = 5", "suspects(1) = 0", "suspects(2) = 5", "suspects(3) = 5", "suspects(4) = 1");
        // the leak of a tube at the far end of the row: the least strength belongs to the first joint alone
        S.again("chamber(0, 0)", "chamber(0, 0)", "tube(0, 1, 1, 0, 0)", "turn(0)", "pump(0, 2)", "pump(1, 2)");
        S.dues("note(0, 15000) = -1", "suspects(0) = 2", "suspects(1) = 0", "suspects(2) = 30", "suspects(3) = 2", "note(1, 15000) = -1",
            "suspects(0) = 1", "suspects(1) = 10", "suspects(2) = 60", "suspects(3) = 1", "suspects(4) = 2");
        S.sentence("Promise 25", "the most READINGS NOTED that any JOINT and strength gives (4; 0 without JOINTS, when all HUNT)");
        S.dues("suspects(4) = 0", "suspects(0) = 0", "suspects(3) = 0");
        S.again(Script.THREE_IN_A_ROW);
        S.dues("suspects(4) = 0", "noteAll() = 3", "suspects(4) = 0", "leak(0, 1) = 0", "noteAll() = 3", "suspects(4) = 3", "note(0, 1) = 11450",
            "suspects(4) = 2", "note(1, 1) = 5950", "suspects(4) = 1", "note(2, 1) = 3200", "suspects(4) = 0", "suspects(0) = 0");
        S.again("chamber(40, 0)", "pump(0, 5)", "curve(0, 4, 9999)", "curve(0, 3, 9998)", "curve(0, 0, 0)", "note(0, 9)");
        S.dues("count(11) = 1", "suspects(4) = 0", "suspects(0) = 0", "note(0, -1) = 9", "suspects(0) = 0", "suspects(4) = 0");
        S.sentence("Promise 25", "NONE for others; of 1, 2 without SUSPECTS.", "chamber(0, 0)", "pump(0, 1)", "note(0, 1)");
        S.dues("suspects(0) = 0", "suspects(1) = -1", "suspects(2) = -1", "suspects(3) = 0", "suspects(4) = 0");
        S.notBeyond("suspects(#)", 0, 4, -1);
        S.sentence("Promise 26", "the TUBE that LEAVES fewest, the first (what 0), how many (1).", Script.THREE_IN_A_ROW);
        S.answered("probe(#)", 0, 1, -1);
        S.dues("note(2, 4000) = -1", "probe(0) = 0", "probe(1) = 3", "tube(0, 1, 12, 0, 0) = 2", "suspects(0) = 6", "probe(0) = 1", "probe(1) = 4");
        S.sentence("Promise 26", "NONE (no SUSPECTS, no TUBES; others).", "chamber(1, 0)", "pump(0, 1)");
        S.dues("suspects(0) = 60", "probe(0) = -1", "probe(1) = -1", "chamber(0, 0) = 1", "tube(0, 1, 1, 0, 0) = 0", "probe(0) = 0", "probe(1) = 20",
            "note(0, 1000) = -1", "suspects(0) = 0", "probe(0) = -1", "probe(1) = -1");
        S.notBeyond("probe(#)", 0, 1, -1);
    }

    private static void parts() {
        S.sentence("Promise 27", "how many TUBES (what 0), which, as bits (1). NONE (they do not hang together; one and the same; others).",
            Script.THREE_IN_A_ROW);
        S.answered("parts(0, #, 0)", 1, 2, -1);
        S.answered("parts(#, 2, 1)", 0, 1, -1);
        S.answered("parts(0, 2, #)", 0, 1, -1);
        S.dues("parts(0, 2, 0) = 1", "parts(0, 2, 1) = 1", "parts(1, 2, 1) = 2", "parts(0, 0, 0) = -1", "parts(3, 3, 0) = -1", "chamber(0, 0) = 3",
            "parts(0, 3, 0) = -1", "turn(0) = 0", "parts(0, 2, 1) = -1", "parts(1, 2, 1) = 2");
    }

    private static void placesAndHelp() {
        S.sentence("Promise 28", "makes the greatest READING of all least, the first", "chamber(0, 0)", "chamber(0, 0)", "chamber(0, 0)");
        S.answered("place(#)", 1, 40, -1);
        // all alike: the first; then the one that is endless without it; then none is better than another
        S.dues("place(1) = 0", "set(2, 0, 1) = 0", "place(1) = 2", "set(1, 0, 1) = 0", "place(1) = 0", "place(40) = 0");
        S.again(TWO);
        S.dues("place(1) = 0", "place(40) = 0", "set(0, 0, 0) = 10", "place(1) = 1");
        S.sentence("Promise 28", "one PUMP more (one SPEED 1 .. 40), as helped() takes it", TWO);
        S.answered("place(#)", 1, 40, -1);
        S.calls("pump(0, 1)", "pump(0, 1)");
        S.dues("pump(0, 1) = -5", "place(1) = 0", "place(40) = 0", "helped(0, 40, 0) = 276", "count(2) = 3");
        S.sentence("Promise 28", "(at which it would HUNT, WEIGHT be above 160: none). NONE (none; others).", Script.HUNTING);
        // 15 with one more: by 2 + 1 it is 5, by 4 + 1 it is 3, the bound is 5
        S.dues("set(0, 0, 15) = 12", "helped(0, 1, 0) = -3", "place(1) = -1", "chamber(0, 0) = 1", "place(1) = -1", "tube(0, 1, 12, 0, 0) = 0",
            "place(2) = 0", "place(0) = -1", "place(41) = -1");
        S.again(FULL);
        S.dues("ofChamber(0, 4) = 120", "place(40) = 0", "place(1) = 0", "chamber(60, 0) = 1", "place(40) = 1");
        S.again();
        S.dues("place(1) = -1", "place(40) = -1");
        S.sentence("Promise 36", "What the READING of a CHAMBER would be with one PUMP more (one SPEED 1 .. 40) at another one or the same",
            Script.THREE_IN_A_ROW);
        S.answered("helped(0, #, 2)", 1, 40, -1);
        S.answered("helped(#, 5, 2)", 0, 2, -1);
        S.answered("helped(0, 5, #)", 0, 2, -1);
        S.dues("helped(2, 5, 2) = 1500", "helped(2, 5, 0) = 9000", "helped(0, 5, 2) = 1173", "helped(2, 40, 2) = 333", "helped(2, 1, 2) = 2500",
            "count(2) = 1", "reading(2) = 3000");
        S.sentence("Promise 36", "(WEIGHT is not asked up to 160). -3 it would HUNT.", FULL);
        S.dues("reading(0) = 416", "helped(0, 40, 0) = 312", "helped(0, 1, 0) = 413", "helped(0, 41, 0) = -1", "helped(0, 0, 0) = -1");
        S.again(Script.HUNTING);
        S.dues("helped(0, 1, 0) = 4000", "set(0, 0, 15) = 12", "helped(0, 1, 0) = -3", "set(0, 0, 14) = 15", "helped(0, 1, 0) = 4666");
        S.sentence("Promise 36", "NONE (no such ones; WEIGHT there would be above 160; others).");
        S.dues("helped(0, 1, 0) = -1", "chamber(0, 0) = 0", "helped(0, 1, 0) = 0", "helped(1, 1, 0) = -1", "helped(0, 1, 1) = -1",
            "helped(-1, 1, 0) = -1", "helped(0, 1, -1) = -1");
    }

    private static void bounds() {
        S.sentence("Promise 29", "The greatest HEAT that all CHAMBERS could have now, so that READINGS of all are n or less (none HUNTS).", BAKED);
        S.dues("hottest(1000) = 0", "hottest(1999) = 0", "hottest(2000) = 1", "hottest(9999) = 8", "hottest(10000) = 9", "set(0, 2, 9) = 0",
            "hottest(1999) = 0", "steps(1) = 0", "hottest(8700) = 9", "hottest(8699) = 8", "hottest(7799) = 7", "ofChamber(0, 2) = 9");
        // from 10 on below 20 it hunts: heat 0 brings 8, heat 1 and 2 hunt, heat 3 brings 20
        S.again(Script.HUNTING);
        S.calls("set(0, 0, 8)", "set(0, 1, 256)");
        S.dues("hottest(3999) = -1", "hottest(4000) = 0", "hottest(4999) = 0", "hottest(5000) = 3", "hottest(6000) = 4", "hottest(11000) = 9");
        S.sentence("Promise 29", "NONE (by none; n below 0).", BAKED);
        S.dues("hottest(999) = -1", "hottest(0) = -1", "hottest(-1) = -1", "hottest(-2147483648) = -1", "hottest(2147483647) = 9", "run(0) = 0",
            "hottest(99999998) = -1", "hottest(99999999) = 9", "set(0, 0, 0) = 10", "hottest(0) = 0", "set(0, 1, 7) = 640", "hottest(0) = 9");
        S.again(Script.HUNTING);
        S.dues("hottest(2147483647) = -1");
        S.again();
        S.dues("hottest(-1) = -1", "hottest(-2147483648) = -1", "hottest(0) = 9");
        S.sentence("Promise 30", "The greatest FEED 0 .. 99 that a CHAMBER could have now, so that READINGS of all are n or less (none HUNTS).", TWO);
        S.dues("fed(0, 8999) = 9", "fed(0, 9000) = 10", "fed(0, 75749) = 98", "fed(0, 75750) = 99", "fed(0, 2147483647) = 99", "fed(0, 1500) = 0",
            "fed(1, 9000) = 6", "fed(1, 7500) = 0", "ofChamber(0, 0) = 10");
        S.again(Script.HUNTING);
        S.dues("fed(0, 0) = 0", "fed(0, 4999) = 9", "fed(0, 5000) = 20", "fed(0, 24750) = 99", "fed(0, 24749) = 98");
        S.sentence("Promise 30", "NONE (by none; n below 0; no such CHAMBER).", TWO);
        S.dues("fed(0, 1499) = -1", "fed(1, 7499) = -1", "fed(0, 0) = -1", "fed(0, -1) = -1", "fed(0, -2147483648) = -1");
        S.answered("fed(#, 9000)", 0, 1, -1);
        S.again("chamber(40, 0)", "pump(0, 5)", "curve(0, 4, 9999)", "curve(0, 3, 9998)", "curve(0, 0, 0)");
        // with nothing coming in it does not hunt
        S.dues("fed(0, 99999999) = 0", "leak(0, 1) = 0", "fed(0, 99999999) = -1");
        S.sentence("Promise 31", "The greatest strength 0 .. 60 that the LEAK could have at a JOINT, in place of the one there is", TWO);
        S.dues("bears(0, 9000) = 0", "bears(0, 9749) = 0", "bears(0, 9750) = 1", "bears(10, 9499) = 0", "bears(10, 9500) = 1", "leak(0, 60) = 0",
            "bears(0, 9000) = 0", "bears(0, 53999) = 59", "bears(0, 54000) = 60", "bears(0, 2147483647) = 60", "bears(1, 24000) = 60",
            "bears(1, 23999) = 59", "count(6) = 60", "count(5) = 0");
        S.again(Script.HUNTING);
        S.dues("bears(0, 4999) = -1", "bears(0, 5000) = 8", "bears(0, 18000) = 60");
        S.sentence("Promise 31", "in place of the one there is, so that READINGS of all are n or less (none HUNTS).", Script.HUNTING);
        S.dues("set(0, 0, 8) = 12", "bears(0, 4000) = 0", "bears(0, 4499) = 0", "bears(0, 4500) = 1", "bears(0, 4999) = 1", "bears(0, 5000) = 12",
            "leak(0, 3) = 0", "count(11) = 1", "bears(0, 4999) = 1");
        S.sentence("Promise 31", "NONE (by none; n below 0; no such JOINT).", TWO);
        S.dues("bears(0, 8999) = -1", "bears(10, 8999) = -1", "bears(0, -1) = -1", "bears(0, -2147483648) = -1");
        S.answered("bears(#, 9000)", 0, 1, -1);
        S.answered("bears(#, 9000)", 10, 10, -1);
        S.dues("bears(9, 9000) = -1", "bears(2, 9000) = -1");
        S.again();
        five();
        S.repeat(10, "tube(0, 1, 1, 0, 0)");
        S.answered("bears(#, 99999999)", 0, 4, -1);
        S.answered("bears(#, 99999999)", 10, 19, -1);
    }

    private static void valves() {
        S.sentence("Promise 32", "The TUBE that, turned, makes the greatest READING of all least, the first", "chamber(1, 0)", "chamber(1, 0)",
            "chamber(0, 0)", "pump(0, 1)", "pump(1, 1)");
        S.calls("tube(0, 2, 1, 0, 0)", "tube(1, 2, 1, 0, 0)");
        S.dues("valve(0) = 0", "valve(1) = 1000", "set(0, 0, 3) = 1", "valve(0) = 0", "valve(1) = 3000", "turn(1) = 0", "valve(0) = 1",
            "valve(1) = 2500");
        S.sentence("Promise 32", "(by which it would HUNT: none); what 0; that READING (what 1). NONE (none; others).", Script.HUNTING);
        S.dues("valve(0) = -1", "valve(1) = -1", "chamber(0, 0) = 1", "tube(0, 1, 1, 0, 0) = 0", "valve(0) = -1", "valve(1) = -1",
            "pump(1, 1) = 1", "turn(0) = 0", "valve(0) = 0", "valve(1) = 4800", "chamber(0, 0) = 2", "tube(1, 2, 1, 0, 0) = 1",
            "valve(0) = 0", "turn(0) = 1", "valve(0) = 1", "valve(1) = 4800");
        S.notBeyond("valve(#)", 0, 1, -1);
        S.again("chamber(1, 0)", "chamber(0, 0)", "tube(0, 1, 1, 0, 0)");
        S.dues("valve(0) = 0", "valve(1) = 99999999");
    }

    private static void tripping() {
        S.sentence("Promise 33", "In how many STEPS, on paper (0 .. 200, up to TIME 9,999), a PUMP trips first", "chamber(1, 0)", "pump(0, 1)",
            "pump(0, 1)", "curve(1, 5, 1)", "watch(2, 0, 199, 2, 0)");
        S.dues("trip(0) = 1", "trip(1) = 200", "drop(0) = 0", "watch(2, 0, 200, 2, 0) = 0", "trip(0) = -1", "trip(1) = -1", "steps(1) = 0",
            "trip(1) = 200", "count(4) = 1", "ofPump(0, 1) = 1", "ofPump(1, 8) = 0", "ofWatch(0, 5) = 0");
        S.again("chamber(1, 0)", "pump(0, 1)", "pump(0, 1)", "curve(1, 5, 1)");
        S.repeat(249, "steps(40)");
        S.dues("watch(2, 0, 9999, 2, 0) = 0", "trip(0) = -1", "drop(0) = 0", "watch(2, 0, 9998, 2, 0) = 0", "trip(0) = 1", "trip(1) = 39",
            "steps(38) = 0", "trip(1) = 1", "steps(1) = 2", "count(4) = 9999", "trip(1) = -1", "trip(0) = -1");
        // at TIME 9,999 nothing trips any more, even if it would at once
        S.dues("run(0) = 1", "curve(0, 5, 1) = 0", "reading(0) = 1000", "trip(0) = -1", "trip(1) = -1");
        S.sentence("Promise 33", "that RUNS or comes to RUN: its number (what 0; of several the least), in how many (1: 1 if in the first).",
            "chamber(6, 0)", "pump(0, 1)", "pump(0, 2)", "pump(0, 3)", "curve(2, 5, 1)", "curve(1, 5, 1)");
        S.dues("trip(0) = 1", "trip(1) = 1", "run(1) = 0", "trip(0) = 2", "trip(1) = 1", "run(2) = 0", "trip(0) = -1", "trip(1) = -1",
            "watch(2, 0, 5, 3, 1) = 0", "trip(0) = 1", "trip(1) = 6", "watch(2, 0, 4, 3, 2) = 1", "trip(0) = 2", "trip(1) = 5");
        S.sentence("Promise 33", "NONE (none by then; others).", "chamber(6, 0)", "pump(0, 1)");
        S.dues("trip(0) = -1", "trip(1) = -1", "curve(0, 5, 7) = 0", "trip(1) = -1", "curve(0, 5, 6) = 7", "trip(1) = 1");
        S.answered("trip(#)", 0, 1, -1);
    }

    private static void lookoutsAndTries() {
        S.sentence("Promise 34", "The WATCHES the CONDITION of which is so now, as bits.");
        S.dues("lookout() = 0");
        for (int i = 0; i < 6; i++) {
            S.call("watch(2, 0, 0, 0, 0)");
            S.due("lookout()", (2 << i) - 1);
        }
        S.dues("drop(0) = 5", "watch(2, 0, 1, 0, 0) = 5", "lookout() = 31", "steps(1) = 0", "lookout() = 63");
        S.sentence("Promise 35", "were the LEAK at a JOINT, so strong (0 .. 60).", TWO);
        S.answered("tried(0, #, 0)", 0, 60, -1);
        S.answered("tried(#, 5, 0)", 0, 1, -1);
        S.answered("tried(#, 0, 0)", 10, 10, -1);
        S.answered("tried(10, 5, #)", 0, 1, -1);
        S.dues("leak(1, 60) = 0", "tried(1, 0, 0) = 9000", "tried(0, 60, 0) = 54000", "tried(10, 60, 0) = 39000", "tried(10, 1, 1) = 4250",
            "count(6) = 60", "count(5) = 1");
        S.sentence("Promise 35", "-3 it would HUNT. NONE (no such ones; others).", Script.HUNTING);
        S.dues("tried(0, 0, 0) = -3", "tried(0, 7, 0) = -3", "tried(0, 8, 0) = 5000", "tried(1, 8, 0) = -1", "tried(5, 8, 0) = -1", "tried(9, 8, 0) = -1",
            "tried(10, 8, 0) = -1", "tried(0, 61, 0) = -1", "tried(0, -1, 0) = -1", "tried(0, 0, 1) = -1", "tried(0, 0, -1) = -1",
            "set(0, 0, 9) = 12", "tried(0, 0, 0) = 4500", "tried(0, 1, 0) = -3");
    }

    private static void untils() {
        S.sentence("Promise 37", "in how many STEPS (0 .. 200, up to TIME 9,999) READINGS of all CHAMBERS are n or less (none HUNTS).",
            "chamber(5, 0)", "pump(0, 1)", "pump(0, 4)", "run(1)", "watch(2, 0, 199, 3, 1)");
        S.dues("until(5000) = 0", "until(4999) = 200", "until(1000) = 200", "until(999) = -1", "drop(0) = 0", "watch(2, 0, 200, 3, 1) = 0",
            "until(4999) = -1", "steps(1) = 0", "until(4999) = 200", "count(4) = 1", "ofPump(1, 1) = 0", "ofWatch(0, 5) = 0");
        S.again("chamber(5, 0)", "pump(0, 1)", "run(0)");
        S.repeat(249, "steps(40)");
        S.dues("watch(2, 0, 9999, 3, 0) = 0", "until(5000) = -1", "until(99999999) = 0", "drop(0) = 0", "watch(2, 0, 9998, 3, 0) = 0",
            "until(5000) = 39", "steps(39) = 1", "count(4) = 9999", "until(5000) = 0", "until(4999) = -1");
        // it hunts until the heat has driven enough gas out
        S.again(Script.HUNTING);
        S.calls("set(0, 0, 0)", "set(0, 1, 640)", "set(0, 2, 1)");
        S.dues("count(11) = 1", "until(99999999) = 1", "until(4999) = 1", "until(4500) = 1", "until(4499) = 8", "set(0, 2, 0) = 1", "until(0) = 0");
        S.sentence("Promise 37", "NONE (not by then; n below 0).", BAKED);
        S.dues("until(-1) = -1", "until(-2147483648) = -1", "until(2147483647) = 0", "until(1000) = 0", "until(999) = -1", "run(0) = 0",
            "until(99999998) = -1", "until(99999999) = 0");
        S.again(Script.HUNTING);
        S.dues("until(2147483647) = -1");
        S.again();
        S.dues("until(-1) = -1", "until(-2147483648) = -1", "until(0) = 0");
    }

    private static void logs() {
        S.sentence("Promise 38", "READING of a CHAMBER in the LOG, so many STEPS ago (0 the latest). -3 it HUNTED. NONE.", Script.HUNTING);
        S.dues("log(0, 0) = -1", "steps(1) = 0", "log(0, 0) = -3", "log(0, 1) = -1", "log(0, -1) = -1", "log(1, 0) = -1", "log(-1, 0) = -1",
            "run(0) = 0", "log(0, 0) = -3", "steps(1) = 0", "log(0, 0) = 99999999", "log(0, 1) = -3", "log(0, 2) = -1", "chamber(0, 0) = 1",
            "log(1, 0) = -1", "log(1, 1) = -1", "steps(1) = 0", "log(1, 0) = 0", "log(1, 1) = -1", "steps(38) = 0", "log(0, 38) = 99999999",
            "log(0, 39) = 99999999", "log(0, 40) = -1", "log(1, 38) = 0", "log(1, 39) = -1", "log(0, 2147483647) = -1", "log(0, -2147483648) = -1");
        S.again("chamber(1, 0)", "pump(0, 1)", "steps(40)");
        S.answered("log(0, #)", 0, 39, -1);
        S.answered("log(#, 39)", 0, 0, -1);
        S.calls("steps(40)", "steps(40)");
        S.answered("log(0, #)", 0, 39, -1);
    }

    private static void whatStands() {
        S.sentence("Promise 39", "NOTED (5; NONE), CHAMBERS of its NET as bits (6). NONE for others.", Script.THREE_IN_A_ROW);
        S.call("noteAll()");
        S.answered("ofChamber(1, #)", 0, 6, -1);
        S.answered("ofChamber(#, 0)", 0, 2, -1);
        S.answered("ofChamber(#, 6)", 0, 2, -1);
        S.dues("ofChamber(1, 5) = 5500", "note(1, -1) = 5500", "ofChamber(1, 5) = -1", "note(1, 0) = -1", "ofChamber(1, 5) = 0", "ofChamber(1, 6) = 7",
            "turn(0) = 0", "ofChamber(0, 6) = 1", "ofChamber(1, 6) = 6");
        S.again();
        five();
        S.answered("ofChamber(#, 4)", 0, 4, -1);
        S.dues("ofChamber(4, 6) = 16", "ofChamber(4, 4) = 0");
        S.sentence("Promise 40", "Of a TUBE its CHAMBERS (what 0, 1), C (2), 1 if OPEN (3). NONE for others.", Script.THREE_IN_A_ROW);
        S.answered("ofTube(1, #)", 0, 3, -1);
        S.answered("ofTube(#, 0)", 0, 1, -1);
        S.dues("turn(1) = 0", "ofTube(1, 0) = 1", "ofTube(1, 1) = 2", "ofTube(1, 2) = 4", "ofTube(1, 3) = 0", "ofTube(0, 3) = 1");
        S.sentence("Promise 41", "s, t, u, b, c, TRIP (2 .. 7), how often it tripped (8). NONE for others.", Script.THREE_IN_A_ROW);
        S.answered("ofPump(0, #)", 0, 8, -1);
        S.answered("ofPump(#, 0)", 0, 0, -1);
        S.calls("curve(0, 0, 1)", "curve(0, 1, 2)", "curve(0, 2, 3)", "curve(0, 4, 70)", "curve(0, 3, 60)", "curve(0, 5, 8)");
        S.dues("ofPump(0, 2) = 1", "ofPump(0, 3) = 2", "ofPump(0, 4) = 3", "ofPump(0, 5) = 60", "ofPump(0, 6) = 70", "ofPump(0, 7) = 8",
            "watch(2, 0, 0, 3, 0) = 0", "steps(40) = 79", "ofPump(0, 8) = 40", "ofWatch(0, 5) = 39");
        S.sentence("Promise 42", "CONDITION, x, n, ACTION, y (what 0 .. 4), how often it was DONE (5). NONE for others.", "watch(1, 2, 3, 4, 5)");
        S.answered("ofWatch(0, #)", 0, 5, -1);
        S.answered("ofWatch(#, 0)", 0, 0, -1);
        for (int what = 0; what < 5; what++) S.due("ofWatch(0, " + what + ")", what + 1);
        S.due("ofWatch(0, 5)", 0);
        S.repeat(5, "watch(1, 2, 3, 4, 5)");
        S.answered("ofWatch(#, 2)", 0, 5, -1);
    }

    private static void counts() {
        S.sentence("Promise 43", "5 JOINT of the LEAK (NONE), 6 its strength (0)", Script.THREE_IN_A_ROW);
        S.dues("count(5) = -1", "count(6) = 0", "leak(11, 60) = 0", "count(5) = 11", "count(6) = 60", "leak(11, 0) = 60", "count(5) = -1",
            "count(6) = 0");
        S.sentence("Promise 43", "13 .. 16 how many calls were REFUSED by -1, -2, -4, -5. NONE for others.", Script.THREE_IN_A_ROW);
        S.call("leak(0, 1)");
        S.answered("count(#)", 0, 16, -1);
        for (int i = 1; i <= 3; i++) {
            S.dues("chamber(-1, 0) = -1", "drop(0) = -2", "back(0) = -4", "tube(0, 1, 1, 0, 0) = " + (i + 1));
            S.dues("count(13) = " + i, "count(14) = " + i, "count(15) = " + i, "count(16) = 0");
        }
        S.repeat(5, "tube(0, 1, 1, 0, 0)");
        S.dues("count(1) = 10", "count(16) = 0", "tube(0, 1, 1, 0, 0) = -5", "count(16) = 1", "undo() = 1", "count(13) = 3", "count(16) = 1");
        S.sentence("Promise 43", "7 READINGS that are NOTED, 8 STEPS in the LOG, 9 how many can be undone, 10 NETS, 11 whether it HUNTS (1, 0), "
            + "12 STAGES that agree (how many rows of STAGES)");
        S.dues("count(7) = 0", "count(8) = 0", "count(9) = 0", "count(10) = 0", "count(11) = 0", "count(12) = 1");
        five();
        S.dues("count(9) = 5", "count(10) = 5", "noteAll() = 5", "count(7) = 5", "steps(39) = 0", "count(8) = 39", "steps(1) = 0", "count(8) = 40",
            "steps(1) = 0", "count(8) = 40", "count(9) = 9", "set(0, 0, 1) = 1", "count(9) = 10", "set(0, 0, 1) = 1", "count(9) = 10",
            "count(12) = 1");
        S.again(Script.HUNTING);
        S.dues("count(11) = 1", "count(12) = 0", "run(0) = 0", "count(11) = 0", "count(12) = 1");
    }

    public static void main(String[] args) {
        pressures();
        flows();
        drawnAndStages();
        betweenAndReduced();
        suspects();
        parts();
        placesAndHelp();
        bounds();
        valves();
        tripping();
        lookoutsAndTries();
        untils();
        logs();
        whatStands();
        counts();
        S.close("AsksBoundaryTest");
    }
}
