import com.sun.management.ThreadMXBean;
import java.lang.management.ManagementFactory;
import java.util.Random;

/** The room that calls take, and that no call of any kind throws or hangs. */
public final class RoomTest {
    private static final int[] EDGES = {
        Integer.MIN_VALUE, Integer.MIN_VALUE + 1, -1_000_000, -11, -3, -2, -1, 0, 1, 2, 3, 4, 5, 6, 9, 10, 11, 14, 19, 20, 30, 40, 41,
        60, 61, 99, 200, 4999, 9999, 99_999_999, 100_000_000, 2_000_000_000, Integer.MAX_VALUE - 9, Integer.MAX_VALUE};
    private static final long BYTES_OF_A_DESK = 60_000;
    private static final Random RANDOM = new Random(11);
    private static long sum;

    private RoomTest() {
    }

    private static int any() {
        return RANDOM.nextInt(3) == 0 ? EDGES[RANDOM.nextInt(EDGES.length)] : RANDOM.nextInt(13) - 1;
    }

    private static long acts(VacuumDesk x, int which) {
        switch (which) {
            case 0: return x.chamber(any(), any());
            case 1: return x.tube(any(), any(), any(), any(), any());
            case 2: return x.pump(any(), any());
            case 3: return x.curve(any(), any(), any());
            case 4: return x.set(any(), any(), any());
            case 5: return x.turn(any());
            case 6: return x.run(any());
            case 7: return x.leak(any(), any());
            case 8: return x.watch(any(), any(), any(), any(), any());
            case 9: return x.drop(any());
            case 10: return x.steps(any());
            case 11: return x.note(any(), any());
            case 12: return x.noteAll();
            case 13: return x.undo();
            case 14: return x.image(any());
            default: return x.back(any());
        }
    }

    private static long asks(VacuumDesk x, int which) {
        switch (which) {
            case 0: return x.pressure(any(), any());
            case 1: return x.reading(any());
            case 2: return x.flow(any(), any());
            case 3: return x.drawn(any(), any());
            case 4: return x.stage(any());
            case 5: return x.between(any(), any(), any());
            case 6: return x.reduced(any(), any(), any());
            case 7: return x.suspects(any());
            case 8: return x.probe(any());
            case 9: return x.parts(any(), any(), any());
            case 10: return x.place(any());
            case 11: return x.hottest(any());
            case 12: return x.fed(any(), any());
            case 13: return x.bears(any(), any());
            case 14: return x.valve(any());
            case 15: return x.trip(any());
            case 16: return x.lookout();
            case 17: return x.tried(any(), any(), any());
            case 18: return x.helped(any(), any(), any());
            case 19: return x.until(any());
            case 20: return x.log(any(), any());
            case 21: return x.ofChamber(any(), any());
            case 22: return x.ofTube(any(), any());
            case 23: return x.ofPump(any(), any());
            case 24: return x.ofWatch(any(), any());
            case 25: return x.count(any());
            default: return x.status();
        }
    }

    private static void wild(VacuumDesk x, int calls) {
        for (int i = 0; i < calls; i++)
            sum += RANDOM.nextBoolean() ? acts(x, RANDOM.nextInt(16)) : asks(x, RANDOM.nextInt(27));
    }

    private static void build(VacuumDesk x) {
        for (int i = 0; i < 5; i++) sum += x.chamber(10 * i, 900 * i);
        for (int i = 0; i < 10; i++) sum += x.tube(i % 5, (i * 3 + 1) % 5, 1 + i, 2, 3);
        for (int i = 0; i < 3; i++) sum += x.pump(i, 9 + i) + x.curve(i, 4, 60) + x.curve(i, 3, 20) + x.curve(i, 1, 5);
        for (int i = 0; i < 5; i++) sum += x.set(i, 2, 5);
        for (int i = 0; i < 6; i++) sum += x.watch(i % 3, i % 5, 3000 * i, i % 5, i % 3);
    }

    public static void main(String[] args) {
        ThreadMXBean bean = (ThreadMXBean) ManagementFactory.getThreadMXBean();
        long thread = Thread.currentThread().getId();
        boolean failed = false;
        for (int i = 0; i < 300; i++) wild(new VacuumDesk(), 512);
        VacuumDesk[] desks = new VacuumDesk[20];
        long before = bean.getThreadAllocatedBytes(thread);
        for (int i = 0; i < desks.length; i++) desks[i] = new VacuumDesk();
        long each = (bean.getThreadAllocatedBytes(thread) - before) / desks.length;
        before = bean.getThreadAllocatedBytes(thread);
        for (VacuumDesk desk : desks) {
            build(desk);
            wild(desk, 450);
        }
        long byCalls = bean.getThreadAllocatedBytes(thread) - before;
        if (each > BYTES_OF_A_DESK) {
            failed = true;
            System.out.println("RoomTest: a new desk takes " + each + " bytes");
        }
        if (byCalls > 20_000) {
            failed = true;
            System.out.println("RoomTest: calls took " + byCalls + " bytes");
        }
        System.out.println("RoomTest: a desk takes " + each + " bytes, its calls " + byCalls + " (" + sum + ")");
        if (failed) System.exit(1);
    }
}
