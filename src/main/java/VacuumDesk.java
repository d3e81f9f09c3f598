import java.util.Arrays;

/** A vacuum line with chambers, tubes, pumps, a leak and watches; its pressures are exact fractions. */
public final class VacuumDesk {
    public static final int NONE = -1;

    private static final int BAD_NUMBER = -1;
    private static final int NO_SUCH = -2;
    private static final int CANNOT_BE = -4;
    private static final int NO_ROOM = -5;

    private static final int ENDLESS = -2;
    private static final int HUNTED = -3;
    private static final int NO_FLOW = -2147483648;

    private static final int MOST_CHAMBERS = 5;
    private static final int MOST_TUBES = 10;
    private static final int MOST_PUMPS = 3;
    private static final int MOST_WATCHES = 6;
    private static final int FIRST_MIDDLE = 10;
    private static final int MOST_UNDONE = 10;
    private static final int IMAGES = 2;
    private static final int LOG_STEPS = 40;
    private static final int MOST_STEPS = 40;
    private static final int PAPER_STEPS = 200;
    private static final int LAST_TIME = 9999;
    private static final int TOP_READING = 99999999;
    private static final int TOP_SPEED = 40;
    private static final int TOP_FEED = 99;
    private static final int TOP_HEAT = 9;
    private static final int TOP_BOUND = 9999;
    private static final int TOP_PIECE = 12;
    private static final int TOP_STRENGTH = 60;
    private static final int TOP_WEIGHT = 120;
    private static final int TOP_HELPED_WEIGHT = 160;
    private static final int HEAT_PARTS = 64;
    private static final int PROBED = 20;

    /** The greatest FEED, GAS, HEAT, in the order in which set() numbers them. */
    private static final int[] TOP_OF_CHAMBER = {99, 4999, 9};

    private static final int DID_CHAMBER = 0;
    private static final int DID_TUBE = 1;
    private static final int DID_PUMP = 2;
    private static final int DID_CURVE = 3;
    private static final int DID_SET = 4;
    private static final int DID_TURN = 5;
    private static final int DID_RUN = 6;
    private static final int DID_LEAK = 7;
    private static final int DID_WATCH = 8;
    private static final int DID_DROP = 9;
    private static final int DID_STEPS = 10;
    private static final int DID_NOTE = 11;
    private static final int DID_NOTE_ALL = 12;

    private final Line line;
    /** Where what-ifs are worked out, so that the line itself stays as it is. */
    private final Line paper;
    private final Balance balance;
    private final Walker walker;
    private final Seeker seeker;
    private final Paths paths;
    private final Past past;
    private final Line[] images;
    private final boolean[] imageKept;
    private final int[] refused;
    private int status;

    public VacuumDesk() {
        line = new Line();
        paper = new Line();
        balance = new Balance();
        walker = new Walker(balance);
        seeker = new Seeker(balance);
        paths = new Paths();
        past = new Past();
        images = new Line[IMAGES];
        for (int k = 0; k < IMAGES; k++) {
            images[k] = new Line();
        }
        imageKept = new boolean[IMAGES];
        refused = new int[4];
        status = 0;
    }

    // ---- acts ----

    public int chamber(int feed, int gas) {
        if (!within(feed, 0, TOP_OF_CHAMBER[Line.FEED]) || !within(gas, 0, TOP_OF_CHAMBER[Line.GAS])) {
            return refuse(BAD_NUMBER);
        }
        if (line.chambers >= MOST_CHAMBERS) {
            return refuse(NO_ROOM);
        }
        accept(DID_CHAMBER);
        return line.addChamber(feed, gas);
    }

    public int tube(int from, int to, int one, int two, int three) {
        if (!arePieces(one, two, three)) {
            return refuse(BAD_NUMBER);
        }
        if (!isChamber(from) || !isChamber(to)) {
            return refuse(NO_SUCH);
        }
        if (from == to) {
            return refuse(CANNOT_BE);
        }
        int conductance = inSeries(one, two, three);
        if (line.tubes >= MOST_TUBES
                || line.weight(from) + conductance > TOP_WEIGHT
                || line.weight(to) + conductance > TOP_WEIGHT) {
            return refuse(NO_ROOM);
        }
        accept(DID_TUBE);
        return line.addTube(from, to, conductance);
    }

    public int pump(int chamber, int speed) {
        if (!within(speed, 1, TOP_SPEED)) {
            return refuse(BAD_NUMBER);
        }
        if (!isChamber(chamber)) {
            return refuse(NO_SUCH);
        }
        if (line.pumps >= MOST_PUMPS || line.weight(chamber) + speed > TOP_WEIGHT) {
            return refuse(NO_ROOM);
        }
        accept(DID_PUMP);
        return line.addPump(chamber, speed);
    }

    public int curve(int pump, int what, int value) {
        if (!isCurveNumber(what, value)) {
            return refuse(BAD_NUMBER);
        }
        if (!isPump(pump)) {
            return refuse(NO_SUCH);
        }
        int[] row = line.pump[pump];
        int top = Math.max(curveThen(row, 0, what, value),
                Math.max(curveThen(row, 1, what, value), curveThen(row, 2, what, value)));
        if (top == 0 || curveThen(row, 3, what, value) >= curveThen(row, 4, what, value)) {
            return refuse(CANNOT_BE);
        }
        if (line.weight(row[Line.AT]) - line.topSpeed(pump) + top > TOP_WEIGHT) {
            return refuse(NO_ROOM);
        }
        accept(DID_CURVE);
        return swap(row, Line.SPEED + what, value);
    }

    public int set(int chamber, int what, int value) {
        if (!within(what, 0, 2) || !within(value, 0, TOP_OF_CHAMBER[what])) {
            return refuse(BAD_NUMBER);
        }
        if (!isChamber(chamber)) {
            return refuse(NO_SUCH);
        }
        accept(DID_SET);
        return swap(line.chamber[chamber], what, value);
    }

    public int turn(int tube) {
        if (!isTube(tube)) {
            return refuse(NO_SUCH);
        }
        accept(DID_TURN);
        return line.flip(line.tube[tube], Line.OPEN);
    }

    public int run(int pump) {
        if (!isPump(pump)) {
            return refuse(NO_SUCH);
        }
        accept(DID_RUN);
        return line.flip(line.pump[pump], Line.RUNS);
    }

    public int leak(int joint, int strength) {
        if (!within(strength, 0, TOP_STRENGTH)) {
            return refuse(BAD_NUMBER);
        }
        if (strength != 0 && !line.isJoint(joint)) {
            return refuse(NO_SUCH);
        }
        accept(DID_LEAK);
        int was = line.strength;
        line.putLeak(joint, strength);
        return was;
    }

    public int watch(int condition, int x, int n, int action, int y) {
        if (!within(condition, 0, 2) || !within(n, 0, TOP_READING) || !within(action, 0, 4)
                || !within(x, 0, 9) || !within(y, 0, 9)) {
            return refuse(BAD_NUMBER);
        }
        if (line.watches >= MOST_WATCHES) {
            return refuse(NO_ROOM);
        }
        accept(DID_WATCH);
        return line.addWatch(condition, x, n, action, y);
    }

    public int drop(int watch) {
        if (!isWatch(watch)) {
            return refuse(NO_SUCH);
        }
        accept(DID_DROP);
        return line.removeWatch(watch);
    }

    public int steps(int n) {
        if (!within(n, 1, MOST_STEPS)) {
            return refuse(BAD_NUMBER);
        }
        if (line.time + n > LAST_TIME) {
            return refuse(CANNOT_BE);
        }
        accept(DID_STEPS);
        int done = 0;
        for (int i = 0; i < n; i++) {
            done += walker.step(line);
        }
        return done;
    }

    public int note(int chamber, int reading) {
        if (!within(reading, NONE, TOP_READING)) {
            return refuse(BAD_NUMBER);
        }
        if (!isChamber(chamber)) {
            return refuse(NO_SUCH);
        }
        accept(DID_NOTE);
        return swap(line.chamber[chamber], Line.NOTED, reading);
    }

    public int noteAll() {
        balance.solve(line);
        if (balance.hunts()) {
            return refuse(CANNOT_BE);
        }
        accept(DID_NOTE_ALL);
        for (int c = 0; c < line.chambers; c++) {
            line.chamber[c][Line.NOTED] = balance.gauge(c);
        }
        return line.chambers;
    }

    public int undo() {
        int kind = past.takeBack(line);
        if (kind == NONE) {
            return refuse(CANNOT_BE);
        }
        status = 0;
        return kind;
    }

    public int image(int k) {
        if (!within(k, 0, IMAGES - 1)) {
            return refuse(BAD_NUMBER);
        }
        status = 0;
        images[k].copyFrom(line);
        imageKept[k] = true;
        return line.time;
    }

    public int back(int k) {
        if (!within(k, 0, IMAGES - 1)) {
            return refuse(BAD_NUMBER);
        }
        if (!imageKept[k]) {
            return refuse(CANNOT_BE);
        }
        status = 0;
        line.copyFrom(images[k]);
        past.forget();
        return line.time;
    }

    // ---- pressures and flows ----

    public long pressure(int chamber, int what) {
        if (!isChamber(chamber) || !within(what, 0, 1)) {
            return NONE;
        }
        balance.solve(line);
        if (balance.hunts()) {
            return HUNTED;
        }
        if (balance.isEndless(chamber)) {
            return ENDLESS;
        }
        return Numbers.term(balance.upper[chamber], balance.lower, what);
    }

    public int reading(int chamber) {
        if (!isChamber(chamber)) {
            return NONE;
        }
        balance.solve(line);
        return balance.gauge(chamber);
    }

    public long flow(int tube, int what) {
        if (!isTube(tube) || !within(what, 0, 1)) {
            return NO_FLOW;
        }
        balance.solve(line);
        if (balance.hunts()) {
            return NO_FLOW;
        }
        int[] row = line.tube[tube];
        if (row[Line.OPEN] == 0) {
            return Numbers.term(0, 1, what);
        }
        if (balance.isEndless(row[Line.FROM])) {
            return NO_FLOW;
        }
        long drop = balance.upper[row[Line.FROM]] - balance.upper[row[Line.TO]];
        return Numbers.term(row[Line.CONDUCTANCE] * drop, balance.lower, what);
    }

    public long drawn(int pump, int what) {
        if (!isPump(pump) || !within(what, 0, 1)) {
            return NONE;
        }
        balance.solve(line);
        if (balance.hunts()) {
            return HUNTED;
        }
        int[] row = line.pump[pump];
        if (row[Line.RUNS] == 0) {
            return Numbers.term(0, 1, what);
        }
        if (balance.isEndless(row[Line.AT])) {
            return ENDLESS;
        }
        long speed = row[Line.SPEED + balance.stageNow(pump)];
        return Numbers.term(speed * balance.upper[row[Line.AT]], balance.lower, what);
    }

    public int stage(int pump) {
        if (!isPump(pump)) {
            return NONE;
        }
        balance.solve(line);
        return balance.hunts() ? HUNTED : balance.stageNow(pump);
    }

    public long between(int from, int to, int what) {
        if (!areTwoChambers(from, to) || !within(what, 0, 1) || !line.hang(from, to)) {
            return NONE;
        }
        paths.across(line, from, to);
        return Numbers.term(paths.top, paths.bottom, what);
    }

    public long reduced(int from, int to, int what) {
        if (!areTwoChambers(from, to) || !within(what, 0, 2)) {
            return NONE;
        }
        paths.reduce(line, from, to);
        if (what == 0) {
            return paths.left;
        }
        return paths.bottom == 0 ? 0 : Numbers.term(paths.top, paths.bottom, what - 1);
    }

    public int parts(int from, int to, int what) {
        if (!areTwoChambers(from, to) || !within(what, 0, 1) || !line.hang(from, to)) {
            return NONE;
        }
        int cut = paths.fewest(line, from, to);
        return what == 0 ? Integer.bitCount(cut) : cut;
    }

    // ---- the leak sought ----

    public int suspects(int what) {
        if (!within(what, 0, 4)) {
            return NONE;
        }
        paper.copyFrom(line);
        seeker.seek(paper);
        switch (what) {
            case 0:
                return seeker.found;
            case 1:
                return seeker.firstJoint;
            case 2:
                return seeker.leastStrength;
            case 3:
                return seeker.jointsFound;
            default:
                return seeker.mostAlike;
        }
    }

    public int probe(int what) {
        if (!within(what, 0, 1)) {
            return NONE;
        }
        paper.copyFrom(line);
        seeker.seek(paper);
        if (seeker.found == 0) {
            return NONE;
        }
        int best = NONE;
        int fewest = NONE;
        for (int t = 0; t < line.tubes; t++) {
            paper.flip(paper.tube[t], Line.OPEN);
            int left = seeker.leaves(paper);
            paper.flip(paper.tube[t], Line.OPEN);
            if (best == NONE || left < fewest) {
                best = t;
                fewest = left;
            }
        }
        return what == 0 ? best : fewest;
    }

    // ---- what would be ----

    public int place(int speed) {
        if (!within(speed, 1, TOP_SPEED)) {
            return NONE;
        }
        paper.copyFrom(line);
        int best = NONE;
        int least = NONE;
        for (int c = 0; c < line.chambers; c++) {
            if (line.weight(c) + speed <= TOP_HELPED_WEIGHT) {
                paper.putHelper(c, speed);
                int greatest = balance.greatest(paper);
                if (greatest != HUNTED && (best == NONE || greatest < least)) {
                    best = c;
                    least = greatest;
                }
            }
        }
        return best;
    }

    public int hottest(int n) {
        if (n < 0) {
            return NONE;
        }
        paper.copyFrom(line);
        for (int heat = TOP_HEAT; heat >= 0; heat--) {
            for (int c = 0; c < paper.chambers; c++) {
                paper.chamber[c][Line.HEAT] = heat;
            }
            if (balance.isUnder(paper, n)) {
                return heat;
            }
        }
        return NONE;
    }

    public int fed(int chamber, int n) {
        if (n < 0 || !isChamber(chamber)) {
            return NONE;
        }
        paper.copyFrom(line);
        for (int feed = TOP_FEED; feed >= 0; feed--) {
            paper.chamber[chamber][Line.FEED] = feed;
            if (balance.isUnder(paper, n)) {
                return feed;
            }
        }
        return NONE;
    }

    public int bears(int joint, int n) {
        if (n < 0 || !line.isJoint(joint)) {
            return NONE;
        }
        paper.copyFrom(line);
        for (int strength = TOP_STRENGTH; strength >= 0; strength--) {
            paper.putLeak(joint, strength);
            if (balance.isUnder(paper, n)) {
                return strength;
            }
        }
        return NONE;
    }

    public int valve(int what) {
        if (!within(what, 0, 1)) {
            return NONE;
        }
        paper.copyFrom(line);
        int best = NONE;
        int least = NONE;
        for (int t = 0; t < line.tubes; t++) {
            paper.flip(paper.tube[t], Line.OPEN);
            int greatest = balance.greatest(paper);
            paper.flip(paper.tube[t], Line.OPEN);
            if (greatest != HUNTED && (best == NONE || greatest < least)) {
                best = t;
                least = greatest;
            }
        }
        return what == 0 ? best : least;
    }

    public int trip(int what) {
        if (!within(what, 0, 1)) {
            return NONE;
        }
        paper.copyFrom(line);
        for (int taken = 1; taken <= PAPER_STEPS && paper.time < LAST_TIME; taken++) {
            walker.step(paper);
            if (walker.tripped != 0) {
                return what == 0 ? Integer.numberOfTrailingZeros(walker.tripped) : taken;
            }
        }
        return NONE;
    }

    public int lookout() {
        balance.solve(line);
        int bits = 0;
        for (int w = 0; w < line.watches; w++) {
            if (walker.isSo(line, w)) {
                bits |= 1 << w;
            }
        }
        return bits;
    }

    public int tried(int joint, int strength, int chamber) {
        if (!line.isJoint(joint) || !within(strength, 0, TOP_STRENGTH) || !isChamber(chamber)) {
            return NONE;
        }
        paper.copyFrom(line);
        paper.putLeak(joint, strength);
        balance.solve(paper);
        return balance.gauge(chamber);
    }

    public int helped(int at, int speed, int chamber) {
        if (!isChamber(at) || !within(speed, 1, TOP_SPEED) || !isChamber(chamber)
                || line.weight(at) + speed > TOP_HELPED_WEIGHT) {
            return NONE;
        }
        paper.copyFrom(line);
        paper.putHelper(at, speed);
        balance.solve(paper);
        return balance.gauge(chamber);
    }

    public int until(int n) {
        if (n < 0) {
            return NONE;
        }
        paper.copyFrom(line);
        for (int taken = 0; taken <= PAPER_STEPS; taken++) {
            if (balance.isUnder(paper, n)) {
                return taken;
            }
            if (paper.time >= LAST_TIME) {
                return NONE;
            }
            walker.step(paper);
        }
        return NONE;
    }

    // ---- what stands ----

    public int log(int chamber, int ago) {
        if (!isChamber(chamber) || !within(ago, 0, line.logged() - 1)) {
            return NONE;
        }
        return line.log[Line.logPlace(line.time - 1 - ago, chamber)];
    }

    public int ofChamber(int chamber, int what) {
        if (!isChamber(chamber)) {
            return NONE;
        }
        switch (what) {
            case 0:
                return line.chamber[chamber][Line.FEED];
            case 1:
                return line.chamber[chamber][Line.GAS];
            case 2:
                return line.chamber[chamber][Line.HEAT];
            case 3:
                return line.load(chamber);
            case 4:
                return line.weight(chamber);
            case 5:
                return line.chamber[chamber][Line.NOTED];
            case 6:
                return line.net(chamber);
            default:
                return NONE;
        }
    }

    public int ofTube(int tube, int what) {
        return isTube(tube) && within(what, 0, Line.TUBE_CELLS - 1) ? line.tube[tube][what] : NONE;
    }

    public int ofPump(int pump, int what) {
        return isPump(pump) && within(what, 0, Line.PUMP_CELLS - 1) ? line.pump[pump][what] : NONE;
    }

    public int ofWatch(int watch, int what) {
        return isWatch(watch) && within(what, 0, Line.WATCH_CELLS - 1) ? line.watch[watch][what] : NONE;
    }

    public int count(int what) {
        switch (what) {
            case 0:
                return line.chambers;
            case 1:
                return line.tubes;
            case 2:
                return line.pumps;
            case 3:
                return line.watches;
            case 4:
                return line.time;
            case 5:
                return line.joint;
            case 6:
                return line.strength;
            case 7:
                return line.notes();
            case 8:
                return line.logged();
            case 9:
                return past.kept;
            case 10:
                return line.nets();
            case 11:
                balance.solve(line);
                return balance.hunts() ? 1 : 0;
            case 12:
                balance.solve(line);
                return balance.rowsThatAgree();
            default:
                return within(what, 13, 16) ? refused[what - 13] : NONE;
        }
    }

    public int status() {
        return status;
    }

    // ---- tests of arguments, and what is told of REFUSED calls ----

    private static boolean within(int value, int least, int most) {
        return value >= least && value <= most;
    }

    private boolean isChamber(int number) {
        return within(number, 0, line.chambers - 1);
    }

    private boolean areTwoChambers(int one, int other) {
        return isChamber(one) && isChamber(other) && one != other;
    }

    private boolean isTube(int number) {
        return within(number, 0, line.tubes - 1);
    }

    private boolean isPump(int number) {
        return within(number, 0, line.pumps - 1);
    }

    private boolean isWatch(int number) {
        return within(number, 0, line.watches - 1);
    }

    private static boolean arePieces(int one, int two, int three) {
        return within(one, 1, TOP_PIECE) && within(two, 0, TOP_PIECE) && within(three, 0, TOP_PIECE)
                && (two != 0 || three == 0);
    }

    /** The pieces are put together as one fraction, so that only the end is cut. */
    private static int inSeries(int one, int two, int three) {
        if (two == 0) {
            return one;
        }
        long whole = three == 0
                ? Numbers.over(one * two, one + two)
                : Numbers.over(one * two * three, one * two + (one + two) * three);
        return (int) Math.max(1, whole);
    }

    private static boolean isCurveNumber(int what, int value) {
        switch (what) {
            case 0:
            case 1:
            case 2:
                return within(value, 0, TOP_SPEED);
            case 3:
            case 4:
                return within(value, 1, TOP_BOUND);
            case 5:
                return within(value, 0, TOP_BOUND);
            default:
                return false;
        }
    }

    /** What a cell of a curve would be, once the cell 'what' has its new value. */
    private static int curveThen(int[] row, int cell, int what, int value) {
        return cell == what ? value : row[Line.SPEED + cell];
    }

    private static int swap(int[] row, int cell, int value) {
        int was = row[cell];
        row[cell] = value;
        return was;
    }

    private int refuse(int by) {
        status = by;
        switch (by) {
            case BAD_NUMBER:
                refused[0]++;
                break;
            case NO_SUCH:
                refused[1]++;
                break;
            case CANNOT_BE:
                refused[2]++;
                break;
            default:
                refused[3]++;
                break;
        }
        return by;
    }

    /** Called ahead of the change itself, for the line as it is now is what undo() goes back to. */
    private void accept(int kind) {
        status = 0;
        past.keep(line, kind);
    }

    /** Arithmetic that several parts share. */
    private static final class Numbers {
        private Numbers() {
        }

        static long over(long upper, long lower) {
            return lower == 0 ? 0 : upper / lower;
        }

        /** Euclid's way needs fewer than 100 turns for any two longs. */
        static long divisor(long a, long b) {
            long big = Math.abs(a);
            long small = Math.abs(b);
            for (int i = 0; i < 100 && small != 0; i++) {
                long rest = big % small;
                big = small;
                small = rest;
            }
            return big;
        }

        /** Of a fraction in lowest terms the upper number (what 0) or the lower one. */
        static long term(long upper, long lower, int what) {
            long common = divisor(upper, lower);
            return over(what == 0 ? upper : lower, common);
        }

        /**
         * Turns the matrix (rows of five, the first n in use) into its adjugate and answers its
         * determinant. Every number on the way is a minor of the matrix, so that all stays whole
         * and within a long; the matrices here have no minor of 0 in the upper left corner.
         */
        static long invert(long[] a, int n) {
            long before = 1;
            for (int k = 0; k < n; k++) {
                long pivot = a[k * MOST_CHAMBERS + k];
                for (int i = 0; i < n; i++) {
                    if (i != k) {
                        clearColumn(a, n, k, i, before);
                    }
                }
                a[k * MOST_CHAMBERS + k] = before;
                before = pivot;
            }
            return before;
        }

        private static void clearColumn(long[] a, int n, int k, int i, long before) {
            int kRow = k * MOST_CHAMBERS;
            int iRow = i * MOST_CHAMBERS;
            long pivot = a[kRow + k];
            long factor = a[iRow + k];
            for (int j = 0; j < n; j++) {
                if (j != k) {
                    long product = pivot * a[iRow + j] - factor * a[kRow + j];
                    a[iRow + j] = before == 0 ? 0 : product / before;
                }
            }
            a[iRow + k] = -factor;
        }
    }

    /** All that stands, apart from what can be undone, the images, and what is told of refusals. */
    private static final class Line {
        static final int FEED = 0;
        static final int GAS = 1;
        static final int HEAT = 2;
        static final int NOTED = 3;
        static final int CHAMBER_CELLS = 4;

        static final int FROM = 0;
        static final int TO = 1;
        static final int CONDUCTANCE = 2;
        static final int OPEN = 3;
        static final int TUBE_CELLS = 4;

        static final int AT = 0;
        static final int RUNS = 1;
        static final int SPEED = 2;
        static final int LOW_BOUND = 5;
        static final int HIGH_BOUND = 6;
        static final int TRIP = 7;
        static final int TRIPPED = 8;
        static final int PUMP_CELLS = 9;

        static final int CONDITION = 0;
        static final int ASKED = 1;
        static final int LIMIT = 2;
        static final int ACTION = 3;
        static final int ACTED_ON = 4;
        static final int DONE = 5;
        static final int WATCH_CELLS = 6;

        int chambers;
        int tubes;
        int pumps;
        int watches;
        int time;
        int joint;
        int strength;
        /** One pump more, on paper alone. */
        int helperAt;
        int helperSpeed;
        final int[][] chamber;
        final int[][] tube;
        final int[][] pump;
        final int[][] watch;
        /** A step at TIME t stands in row t modulo 40, for each step is one TIME. */
        final int[] log;

        Line() {
            joint = NONE;
            helperAt = NONE;
            chamber = new int[MOST_CHAMBERS][CHAMBER_CELLS];
            tube = new int[MOST_TUBES][TUBE_CELLS];
            pump = new int[MOST_PUMPS][PUMP_CELLS];
            watch = new int[MOST_WATCHES][WATCH_CELLS];
            log = new int[LOG_STEPS * MOST_CHAMBERS];
        }

        void copyFrom(Line other) {
            chambers = other.chambers;
            tubes = other.tubes;
            pumps = other.pumps;
            watches = other.watches;
            time = other.time;
            joint = other.joint;
            strength = other.strength;
            helperAt = other.helperAt;
            helperSpeed = other.helperSpeed;
            copyRows(other.chamber, chamber, CHAMBER_CELLS);
            copyRows(other.tube, tube, TUBE_CELLS);
            copyRows(other.pump, pump, PUMP_CELLS);
            copyRows(other.watch, watch, WATCH_CELLS);
            System.arraycopy(other.log, 0, log, 0, LOG_STEPS * MOST_CHAMBERS);
        }

        private static void copyRows(int[][] from, int[][] to, int cells) {
            for (int i = 0; i < from.length && i < to.length; i++) {
                System.arraycopy(from[i], 0, to[i], 0, cells);
            }
        }

        int addChamber(int feed, int gas) {
            int[] row = chamber[chambers];
            row[FEED] = feed;
            row[GAS] = gas;
            row[HEAT] = 0;
            row[NOTED] = NONE;
            chambers++;
            return chambers - 1;
        }

        int addTube(int from, int to, int conductance) {
            int[] row = tube[tubes];
            row[FROM] = from;
            row[TO] = to;
            row[CONDUCTANCE] = conductance;
            row[OPEN] = 1;
            tubes++;
            return tubes - 1;
        }

        int addPump(int at, int speed) {
            int[] row = pump[pumps];
            row[AT] = at;
            row[RUNS] = 1;
            row[SPEED] = speed;
            row[SPEED + 1] = speed;
            row[SPEED + 2] = speed;
            row[LOW_BOUND] = 1;
            row[HIGH_BOUND] = 2;
            row[TRIP] = 0;
            row[TRIPPED] = 0;
            pumps++;
            return pumps - 1;
        }

        int addWatch(int condition, int x, int n, int action, int y) {
            int[] row = watch[watches];
            row[CONDITION] = condition;
            row[ASKED] = x;
            row[LIMIT] = n;
            row[ACTION] = action;
            row[ACTED_ON] = y;
            row[DONE] = 0;
            watches++;
            return watches - 1;
        }

        int removeWatch(int number) {
            for (int w = number; w + 1 < watches; w++) {
                System.arraycopy(watch[w + 1], 0, watch[w], 0, WATCH_CELLS);
            }
            watches--;
            return watches;
        }

        void putLeak(int at, int strong) {
            joint = strong == 0 ? NONE : at;
            strength = strong;
        }

        void putHelper(int at, int speed) {
            helperAt = at;
            helperSpeed = speed;
        }

        int flip(int[] row, int cell) {
            row[cell] = 1 - row[cell];
            return row[cell];
        }

        boolean isJoint(int number) {
            return number >= 0 && number < chambers
                    || number >= FIRST_MIDDLE && number - FIRST_MIDDLE < tubes;
        }

        int fromWalls(int c) {
            return chamber[c][GAS] * chamber[c][HEAT] / HEAT_PARTS;
        }

        int load(int c) {
            return chamber[c][FEED] + fromWalls(c);
        }

        /** Twice what leaks into a chamber, for half a leak need not be whole. */
        int twiceLeak(int c) {
            if (joint == c) {
                return 2 * strength;
            }
            int t = joint - FIRST_MIDDLE;
            boolean atAnEnd = t >= 0 && t < tubes && (tube[t][FROM] == c || tube[t][TO] == c);
            return atAnEnd ? strength : 0;
        }

        int topSpeed(int p) {
            return Math.max(pump[p][SPEED], Math.max(pump[p][SPEED + 1], pump[p][SPEED + 2]));
        }

        int weight(int c) {
            int sum = 0;
            for (int t = 0; t < tubes; t++) {
                if (tube[t][FROM] == c || tube[t][TO] == c) {
                    sum += tube[t][CONDUCTANCE];
                }
            }
            for (int p = 0; p < pumps; p++) {
                if (pump[p][AT] == c) {
                    sum += topSpeed(p);
                }
            }
            return sum;
        }

        /** The chambers of the net of a chamber, as bits: each round reaches one tube further. */
        int net(int c) {
            int bits = 1 << c;
            for (int round = 1; round < chambers; round++) {
                for (int t = 0; t < tubes; t++) {
                    int ends = 1 << tube[t][FROM] | 1 << tube[t][TO];
                    if (tube[t][OPEN] != 0 && (bits & ends) != 0) {
                        bits |= ends;
                    }
                }
            }
            return bits;
        }

        boolean hang(int one, int other) {
            return (net(one) >> other & 1) != 0;
        }

        int nets() {
            int sum = 0;
            for (int c = 0; c < chambers; c++) {
                if (Integer.numberOfTrailingZeros(net(c)) == c) {
                    sum++;
                }
            }
            return sum;
        }

        int notes() {
            int sum = 0;
            for (int c = 0; c < chambers; c++) {
                if (chamber[c][NOTED] != NONE) {
                    sum++;
                }
            }
            return sum;
        }

        int logged() {
            return Math.min(time, LOG_STEPS);
        }

        static int logPlace(int atTime, int c) {
            return atTime % LOG_STEPS * MOST_CHAMBERS + c;
        }

        /** Whether the action changed anything. */
        boolean act(int action, int y) {
            switch (action) {
                case 0:
                    return y < tubes && put(tube[y], OPEN, 0);
                case 1:
                    return y < tubes && put(tube[y], OPEN, 1);
                case 2:
                    return y < pumps && put(pump[y], RUNS, 0);
                case 3:
                    return y < pumps && put(pump[y], RUNS, 1);
                case 4:
                    return y < chambers && put(chamber[y], HEAT, 0);
                default:
                    return false;
            }
        }

        private static boolean put(int[] row, int cell, int value) {
            boolean changes = row[cell] != value;
            row[cell] = value;
            return changes;
        }

        void bake() {
            for (int c = 0; c < chambers; c++) {
                chamber[c][GAS] -= fromWalls(c);
            }
            time++;
        }
    }

    /**
     * The pressures of a line. What they depend on is written into one key; as long as its first
     * part stays, the inverted matrices of the rows of stages serve again, for most what-ifs
     * change only what comes in.
     */
    private static final class Balance {
        private static final int ROWS = 27;
        private static final int CELLS = MOST_CHAMBERS * MOST_CHAMBERS;
        private static final int HELPER = 1;
        private static final int PAIRS = 3;
        private static final int ENGINES = PAIRS + CELLS;
        private static final int ENGINE_CELLS = 5;
        private static final int SHAPE = ENGINES + MOST_PUMPS * ENGINE_CELLS;
        private static final int BOUNDS = SHAPE;
        private static final int INFLOW = BOUNDS + MOST_PUMPS * 2;
        private static final int KEY = INFLOW + MOST_CHAMBERS;

        private final int[] key;
        private final int[] fresh;
        private final long[][] inverse;
        private final long[] determinant;
        /** The rows of stages whose matrices are inverted already, as bits. */
        private int inverted;
        /** For each row of stages the chambers of nets without speed, as bits. */
        private final int[] still;
        private final int[] netOf;
        private final int[] speed;
        private int row;
        private int endless;
        final long[] upper;
        long lower;

        Balance() {
            key = new int[KEY];
            key[0] = NONE;
            fresh = new int[KEY];
            inverse = new long[ROWS][CELLS];
            determinant = new long[ROWS];
            still = new int[ROWS];
            netOf = new int[MOST_CHAMBERS];
            speed = new int[MOST_CHAMBERS];
            upper = new long[MOST_CHAMBERS];
            lower = 1;
            row = NONE;
        }

        void solve(Line line) {
            write(line);
            boolean otherShape = differs(0, SHAPE);
            if (!otherShape && !differs(SHAPE, KEY)) {
                return;
            }
            System.arraycopy(fresh, 0, key, 0, KEY);
            if (otherShape) {
                inverted = 0;
                for (int c = 0; c < line.chambers; c++) {
                    netOf[c] = line.net(c);
                }
            }
            row = NONE;
            for (int r = 0; r < ROWS && row == NONE; r++) {
                prepare(r);
                if (agrees(r)) {
                    row = r;
                }
            }
            if (row != NONE) {
                tellPressures();
            }
        }

        boolean hunts() {
            return row == NONE;
        }

        boolean isEndless(int c) {
            return (endless >> c & 1) != 0;
        }

        int stageNow(int p) {
            return row == NONE ? 0 : stageIn(row, p);
        }

        int gauge(int c) {
            if (row == NONE) {
                return HUNTED;
            }
            if (isEndless(c)) {
                return TOP_READING;
            }
            return (int) Math.min(TOP_READING, Numbers.over(1000 * upper[c], lower));
        }

        /** The greatest reading of all, or that the line hunts. */
        int greatest(Line line) {
            solve(line);
            if (row == NONE) {
                return HUNTED;
            }
            int most = 0;
            for (int c = 0; c < line.chambers; c++) {
                most = Math.max(most, gauge(c));
            }
            return most;
        }

        boolean isUnder(Line line, int n) {
            int most = greatest(line);
            return most != HUNTED && most <= n;
        }

        int rowsThatAgree() {
            int sum = 0;
            for (int r = 0; r < ROWS; r++) {
                prepare(r);
                if (agrees(r)) {
                    sum++;
                }
            }
            return sum;
        }

        private void write(Line line) {
            Arrays.fill(fresh, 0);
            fresh[0] = line.chambers;
            fresh[HELPER] = line.helperAt;
            fresh[HELPER + 1] = line.helperSpeed;
            for (int t = 0; t < line.tubes; t++) {
                int[] tube = line.tube[t];
                if (tube[Line.OPEN] != 0) {
                    int from = tube[Line.FROM];
                    int to = tube[Line.TO];
                    fresh[PAIRS + from * MOST_CHAMBERS + to] += tube[Line.CONDUCTANCE];
                    fresh[PAIRS + to * MOST_CHAMBERS + from] += tube[Line.CONDUCTANCE];
                }
            }
            for (int p = 0; p < line.pumps; p++) {
                if (line.pump[p][Line.RUNS] != 0) {
                    System.arraycopy(line.pump[p], 0, fresh, ENGINES + p * ENGINE_CELLS, ENGINE_CELLS);
                    System.arraycopy(line.pump[p], Line.LOW_BOUND, fresh, BOUNDS + p * 2, 2);
                }
            }
            for (int c = 0; c < line.chambers; c++) {
                fresh[INFLOW + c] = 2 * line.load(c) + line.twiceLeak(c);
            }
        }

        private boolean differs(int start, int end) {
            for (int i = start; i < end; i++) {
                if (fresh[i] != key[i]) {
                    return true;
                }
            }
            return false;
        }

        private boolean runs(int p) {
            return key[ENGINES + p * ENGINE_CELLS + Line.RUNS] != 0;
        }

        private int placeOf(int p) {
            return key[ENGINES + p * ENGINE_CELLS + Line.AT];
        }

        /** A row of stages counts like a number of three digits, pump 0's the first. */
        private static int stageIn(int r, int p) {
            int digits = p == 0 ? r / 9 : p == 1 ? r / 3 : r;
            return digits % 3;
        }

        private void tellPressures() {
            endless = 0;
            lower = 2 * determinant[row];
            for (int c = 0; c < key[0]; c++) {
                boolean stands = isStill(row, c);
                upper[c] = stands ? 0 : upperAt(row, c);
                if (stands && comesIn(netOf[c])) {
                    endless |= 1 << c;
                }
            }
        }

        /** Asked of a row that has been prepared; one that cannot be is never inverted. */
        private boolean agrees(int r) {
            if (!isInverted(r)) {
                return false;
            }
            for (int p = 0; p < MOST_PUMPS; p++) {
                if (runs(p) && stageBy(r, p) != stageIn(r, p)) {
                    return false;
                }
            }
            return true;
        }

        /** The stage that a pump has by the pressure that a row of stages gives. */
        private int stageBy(int r, int p) {
            int c = placeOf(p);
            if (isStill(r, c)) {
                return comesIn(netOf[c]) ? 2 : 0;
            }
            long twice = upperAt(r, c);
            long unit = 2 * determinant[r];
            if (twice < key[BOUNDS + p * 2] * unit) {
                return 0;
            }
            return twice < key[BOUNDS + p * 2 + 1] * unit ? 1 : 2;
        }

        private boolean isStill(int r, int c) {
            return (still[r] >> c & 1) != 0;
        }

        private boolean comesIn(int net) {
            for (int c = 0; c < key[0]; c++) {
                if ((net >> c & 1) != 0 && key[INFLOW + c] > 0) {
                    return true;
                }
            }
            return false;
        }

        private long upperAt(int r, int c) {
            long sum = 0;
            for (int j = 0; j < key[0]; j++) {
                sum += inverse[r][c * MOST_CHAMBERS + j] * key[INFLOW + j];
            }
            return sum;
        }

        /** Whether every pump that does not run has stage 0. */
        private boolean canBe(int r) {
            for (int p = 0; p < MOST_PUMPS; p++) {
                if (!runs(p) && stageIn(r, p) != 0) {
                    return false;
                }
            }
            return true;
        }

        private void prepare(int r) {
            if (isInverted(r) || !canBe(r)) {
                return;
            }
            Arrays.fill(speed, 0);
            for (int p = 0; p < MOST_PUMPS; p++) {
                speed[placeOf(p)] += key[ENGINES + p * ENGINE_CELLS + Line.SPEED + stageIn(r, p)];
            }
            if (key[HELPER] != NONE) {
                speed[key[HELPER]] += key[HELPER + 1];
            }
            still[r] = netsWithoutSpeed();
            fillMatrix(r);
            determinant[r] = Numbers.invert(inverse[r], key[0]);
            inverted |= 1 << r;
        }

        private boolean isInverted(int r) {
            return (inverted >> r & 1) != 0;
        }

        private int netsWithoutSpeed() {
            int moved = 0;
            for (int c = 0; c < key[0]; c++) {
                if (speed[c] > 0) {
                    moved |= netOf[c];
                }
            }
            return (1 << key[0]) - 1 & ~moved;
        }

        /** Chambers of nets without speed stand apart by a 1, so that the rest can be inverted. */
        private void fillMatrix(int r) {
            long[] a = inverse[r];
            for (int i = 0; i < key[0]; i++) {
                int start = i * MOST_CHAMBERS;
                boolean stands = isStill(r, i);
                long sum = speed[i];
                for (int j = 0; j < key[0]; j++) {
                    int pair = key[PAIRS + start + j];
                    a[start + j] = stands ? 0 : -pair;
                    sum += pair;
                }
                a[start + i] = stands ? 1 : sum;
            }
        }
    }

    /** Steps, on the line itself or on paper. */
    private static final class Walker {
        private final Balance balance;
        /** The pumps that tripped in the latest step, as bits. */
        int tripped;

        Walker(Balance balance) {
            this.balance = balance;
        }

        /** How many actions were done and pumps tripped. */
        int step(Line line) {
            int done = askWatches(line);
            tripPumps(line);
            writeLog(line);
            line.bake();
            return done + Integer.bitCount(tripped);
        }

        /** Whether the condition of a watch is so, by pressures that have been solved already. */
        boolean isSo(Line line, int w) {
            int[] watch = line.watch[w];
            int limit = watch[Line.LIMIT];
            int asked = watch[Line.ASKED];
            if (watch[Line.CONDITION] == 2) {
                return line.time >= limit;
            }
            if (balance.hunts() || asked >= line.chambers) {
                return false;
            }
            int reading = balance.gauge(asked);
            return watch[Line.CONDITION] == 0 ? reading > limit : reading < limit;
        }

        private int askWatches(Line line) {
            int done = 0;
            for (int w = 0; w < line.watches; w++) {
                int[] watch = line.watch[w];
                balance.solve(line);
                if (isSo(line, w) && line.act(watch[Line.ACTION], watch[Line.ACTED_ON])) {
                    watch[Line.DONE]++;
                    done++;
                }
            }
            return done;
        }

        private void tripPumps(Line line) {
            tripped = 0;
            balance.solve(line);
            for (int p = 0; p < line.pumps && !balance.hunts(); p++) {
                int[] pump = line.pump[p];
                if (pump[Line.RUNS] != 0 && pump[Line.TRIP] > 0
                        && balance.gauge(pump[Line.AT]) >= pump[Line.TRIP] * 1000) {
                    pump[Line.RUNS] = 0;
                    pump[Line.TRIPPED]++;
                    tripped |= 1 << p;
                }
            }
        }

        private void writeLog(Line line) {
            balance.solve(line);
            for (int c = 0; c < MOST_CHAMBERS; c++) {
                line.log[Line.logPlace(line.time, c)] = c < line.chambers ? balance.gauge(c) : NONE;
            }
        }
    }

    /** Where the leak could be, by the readings that are noted. */
    private static final class Seeker {
        private final Balance balance;
        private final int[] joints;
        private final int[] strengths;
        /** For each of the first suspects the readings it gives, and last whether it hunts. */
        private final int[][] seen;
        int found;
        int firstJoint;
        int leastStrength;
        int jointsFound;
        int mostAlike;

        Seeker(Balance balance) {
            this.balance = balance;
            joints = new int[PROBED];
            strengths = new int[PROBED];
            seen = new int[PROBED][MOST_CHAMBERS + 1];
        }

        /** Puts one leak after the other into the line, which must be on paper. */
        void seek(Line paper) {
            found = 0;
            firstJoint = NONE;
            leastStrength = NONE;
            jointsFound = 0;
            mostAlike = 0;
            int noted = paper.notes();
            for (int joint = 0; joint < FIRST_MIDDLE + paper.tubes; joint++) {
                if (paper.isJoint(joint)) {
                    seekAt(paper, joint, noted);
                }
            }
        }

        private void seekAt(Line paper, int joint, int noted) {
            int before = found;
            for (int strength = 1; strength <= TOP_STRENGTH; strength++) {
                paper.putLeak(joint, strength);
                balance.solve(paper);
                if (!balance.hunts()) {
                    int alike = alike(paper);
                    mostAlike = Math.max(mostAlike, alike);
                    if (alike == noted) {
                        add(joint, strength);
                    }
                }
            }
            if (found > before) {
                jointsFound++;
            }
        }

        private int alike(Line paper) {
            int sum = 0;
            for (int c = 0; c < paper.chambers; c++) {
                int noted = paper.chamber[c][Line.NOTED];
                if (noted != NONE && noted == balance.gauge(c)) {
                    sum++;
                }
            }
            return sum;
        }

        private void add(int joint, int strength) {
            if (found == 0) {
                firstJoint = joint;
                leastStrength = strength;
            }
            if (found < PROBED) {
                joints[found] = joint;
                strengths[found] = strength;
            }
            found++;
        }

        /** How many of the first suspects belong together at most, by the line as it is on paper. */
        int leaves(Line paper) {
            int kept = Math.min(found, PROBED);
            for (int i = 0; i < kept; i++) {
                paper.putLeak(joints[i], strengths[i]);
                balance.solve(paper);
                look(paper, seen[i]);
            }
            int most = 0;
            for (int i = 0; i < kept; i++) {
                int together = 0;
                for (int j = i; j < kept; j++) {
                    if (same(seen[i], seen[j])) {
                        together++;
                    }
                }
                most = Math.max(most, together);
            }
            return most;
        }

        private void look(Line paper, int[] readings) {
            for (int c = 0; c < MOST_CHAMBERS; c++) {
                boolean asked = c < paper.chambers && paper.chamber[c][Line.NOTED] != NONE;
                readings[c] = asked ? balance.gauge(c) : NONE;
            }
            readings[MOST_CHAMBERS] = balance.hunts() ? 1 : 0;
        }

        private static boolean same(int[] one, int[] other) {
            for (int i = 0; i <= MOST_CHAMBERS; i++) {
                if (one[i] != other[i]) {
                    return false;
                }
            }
            return true;
        }
    }

    /** What the open tubes alone make between two chambers. */
    private static final class Paths {
        private final long[] matrix;
        /** The conductance between each two chambers as a fraction; 0 above: nothing is there. */
        private final long[] upper;
        private final long[] lower;
        long top;
        long bottom;
        int left;

        Paths() {
            matrix = new long[MOST_CHAMBERS * MOST_CHAMBERS];
            upper = new long[MOST_CHAMBERS * MOST_CHAMBERS];
            lower = new long[MOST_CHAMBERS * MOST_CHAMBERS];
        }

        /**
         * The conductance of two chambers that hang together, into top and bottom: with the second
         * held at pressure 0, one that flows in at the first lifts it by adjugate by determinant.
         */
        void across(Line line, int from, int to) {
            int free = line.net(from) & ~(1 << to);
            Arrays.fill(matrix, 0);
            for (int c = 0; c < line.chambers; c++) {
                matrix[cell(c, c)] = (free >> c & 1) != 0 ? 0 : 1;
            }
            for (int t = 0; t < line.tubes; t++) {
                int[] tube = line.tube[t];
                if (tube[Line.OPEN] != 0) {
                    enter(tube, free);
                }
            }
            top = Numbers.invert(matrix, line.chambers);
            bottom = matrix[cell(from, from)];
        }

        private void enter(int[] tube, int free) {
            int a = tube[Line.FROM];
            int b = tube[Line.TO];
            boolean aFree = (free >> a & 1) != 0;
            boolean bFree = (free >> b & 1) != 0;
            if (aFree) {
                matrix[cell(a, a)] += tube[Line.CONDUCTANCE];
            }
            if (bFree) {
                matrix[cell(b, b)] += tube[Line.CONDUCTANCE];
            }
            if (aFree && bFree) {
                matrix[cell(a, b)] -= tube[Line.CONDUCTANCE];
                matrix[cell(b, a)] -= tube[Line.CONDUCTANCE];
            }
        }

        /** How many are left, into left; of one alone its conductance into top and bottom, else 0. */
        void reduce(Line line, int from, int to) {
            Arrays.fill(upper, 0);
            Arrays.fill(lower, 1);
            for (int t = 0; t < line.tubes; t++) {
                int[] tube = line.tube[t];
                if (tube[Line.OPEN] != 0) {
                    join(tube[Line.FROM], tube[Line.TO], tube[Line.CONDUCTANCE], 1);
                }
            }
            // A chamber that has been taken out stays out, so one round for each is enough.
            for (int round = 0; round < line.chambers; round++) {
                for (int c = 0; c < line.chambers; c++) {
                    if (c != from && c != to) {
                        takeOut(c);
                    }
                }
            }
            left = 0;
            for (int a = 0; a < MOST_CHAMBERS; a++) {
                for (int b = a + 1; b < MOST_CHAMBERS; b++) {
                    left += upper[cell(a, b)] != 0 ? 1 : 0;
                }
            }
            boolean alone = left == 1 && upper[cell(from, to)] != 0;
            top = alone ? upper[cell(from, to)] : 0;
            bottom = alone ? lower[cell(from, to)] : 0;
        }

        private void takeOut(int c) {
            int first = NONE;
            int second = NONE;
            int ends = 0;
            for (int i = 0; i < MOST_CHAMBERS; i++) {
                if (upper[cell(c, i)] != 0) {
                    first = second;
                    second = i;
                    ends++;
                }
            }
            if (ends == 2) {
                long u = upper[cell(c, first)];
                long v = upper[cell(c, second)];
                long down = u * lower[cell(c, second)] + v * lower[cell(c, first)];
                clear(c, first);
                clear(c, second);
                join(first, second, u * v, down);
            } else if (ends == 1) {
                clear(c, second);
            }
        }

        /** Puts a conductance beside what is there already, and keeps lowest terms. */
        private void join(int a, int b, long u, long l) {
            long was = upper[cell(a, b)];
            long sum = was * l + u * lower[cell(a, b)];
            long down = l * lower[cell(a, b)];
            write(a, b, Numbers.term(sum, down, 0), Numbers.term(sum, down, 1));
        }

        private void clear(int a, int b) {
            write(a, b, 0, 1);
        }

        private void write(int a, int b, long u, long l) {
            upper[cell(a, b)] = u;
            upper[cell(b, a)] = u;
            lower[cell(a, b)] = l;
            lower[cell(b, a)] = l;
        }

        private static int cell(int a, int b) {
            return a * MOST_CHAMBERS + b;
        }

        /**
         * The fewest tubes that part two chambers, as bits: such tubes are just those that go out
         * of the set of chambers that still hang at the first, so all sets are tried.
         */
        int fewest(Line line, int from, int to) {
            int best = NONE;
            for (int set = 0; set < 1 << line.chambers; set++) {
                if ((set >> from & 1) != 0 && (set >> to & 1) == 0) {
                    int cut = goingOut(line, set);
                    if (best == NONE || isLess(cut, best)) {
                        best = cut;
                    }
                }
            }
            return best;
        }

        private static boolean isLess(int cut, int best) {
            int tubes = Integer.bitCount(cut);
            int tubesOfBest = Integer.bitCount(best);
            return tubes < tubesOfBest || tubes == tubesOfBest && cut < best;
        }

        private static int goingOut(Line line, int set) {
            int bits = 0;
            for (int t = 0; t < line.tubes; t++) {
                int[] tube = line.tube[t];
                if (tube[Line.OPEN] != 0 && (set >> tube[Line.FROM] & 1) != (set >> tube[Line.TO] & 1)) {
                    bits |= 1 << t;
                }
            }
            return bits;
        }
    }

    /** The lines as they were ahead of the latest acts, in rows that are used again. */
    private static final class Past {
        private final Line[] lines;
        private final int[] kinds;
        private int oldest;
        int kept;

        Past() {
            lines = new Line[MOST_UNDONE];
            for (int i = 0; i < MOST_UNDONE; i++) {
                lines[i] = new Line();
            }
            kinds = new int[MOST_UNDONE];
        }

        void keep(Line line, int kind) {
            int slot = (oldest + kept) % MOST_UNDONE;
            lines[slot].copyFrom(line);
            kinds[slot] = kind;
            if (kept < MOST_UNDONE) {
                kept++;
            } else {
                oldest = (oldest + 1) % MOST_UNDONE;
            }
        }

        /** The kind of act that was undone, NONE if there is none. */
        int takeBack(Line line) {
            if (kept == 0) {
                return NONE;
            }
            kept--;
            int slot = (oldest + kept) % MOST_UNDONE;
            line.copyFrom(lines[slot]);
            return kinds[slot];
        }

        void forget() {
            kept = 0;
            oldest = 0;
        }
    }
}
