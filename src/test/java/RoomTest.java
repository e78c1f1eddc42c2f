import com.sun.management.ThreadMXBean;
import java.lang.management.ManagementFactory;
import java.util.Random;

/** No call throws or fails to end for odd numbers in any state, also behind the 512th call, and calls make no objects. */
public final class RoomTest {
    private static final int[] ODD = {0, 1, 2, 3, 4, 5, 6, 7, 8, 9, 10, 11, 20, 21, 48, 255, 256, -1, -2, -9, 1 << 30,
        Integer.MAX_VALUE, Integer.MIN_VALUE};
    private static final int MOST_BYTES_OF_ONE = 40000, MOST_SECONDS = 300;

    private final Random chance;
    private final QuietLines x = new QuietLines();

    private RoomTest(long seed) {
        chance = new Random(seed);
    }

    public static void main(String[] args) {
        watch();
        ThreadMXBean threads = (ThreadMXBean) ManagementFactory.getThreadMXBean();
        for (int seed = 0; seed < 300; seed++) {
            RoomTest room = new RoomTest(seed);
            room.program();
            for (int call = 0; call < 600; call++) {
                room.call(chanceOf(room));
            }
        }
        long before = threads.getCurrentThreadAllocatedBytes();
        RoomTest room = new RoomTest(1000);
        room.program();
        long made = threads.getCurrentThreadAllocatedBytes();
        for (int call = 0; call < 20000; call++) {
            room.call(chanceOf(room));
        }
        long used = threads.getCurrentThreadAllocatedBytes() - made;
        Due.holds("an object is small: " + (made - before), made - before < MOST_BYTES_OF_ONE);
        Due.holds("20000 calls make no objects: " + used, used < 2000);
        Due.end();
    }

    /** A call that does not end would else leave the test without an answer. */
    private static void watch() {
        Thread watcher = new Thread(() -> {
            try {
                Thread.sleep(MOST_SECONDS * 1000L);
            } catch (InterruptedException ended) {
                return;
            }
            System.out.println("a call has not ended in " + MOST_SECONDS + " seconds");
            Runtime.getRuntime().halt(1);
        });
        watcher.setDaemon(true);
        watcher.start();
    }

    private static int chanceOf(RoomTest room) {
        return room.chance.nextInt(27);
    }

    private int n() {
        return ODD[chance.nextInt(ODD.length)];
    }

    private int few() {
        return chance.nextInt(10);
    }

    private void program() {
        String[] programs = {"Q", "QOaObOcOdOe", "QTb2DcVeac4Bd5SbbbOcOeObTe.", "QSdabBc4Kd0OaOdDdOd",
            "QVabc9Vabc9Vabc9Vabc9Vabc9Vabc9Vabc9Vabc9Vabc9", "QBa9Bb9Bc9Bd9Be9Tb9Tc9Oa"};
        Due.write(x, programs[chance.nextInt(programs.length)]);
        x.program();
    }

    private void call(int kind) {
        switch (kind) {
            case 0 -> x.write(n());
            case 1 -> x.wipe();
            case 2 -> x.fault();
            case 3 -> x.program();
            case 4 -> x.line(n(), n());
            case 5 -> {
                x.tell(n(), n(), n(), n(), n(), n());
                x.tell(few(), few(), few(), 0, 0, few());
            }
            case 6 -> x.relabel(n(), n());
            case 7 -> x.undo();
            case 8 -> x.label(n(), n());
            case 9 -> x.context(n(), n());
            case 10 -> x.wrong();
            case 11 -> x.run(n(), n(), n(), n());
            case 12 -> x.ends(few(), few(), few(), n());
            case 13 -> x.leak(n());
            default -> otherCall(kind);
        }
    }

    private void otherCall(int kind) {
        switch (kind) {
            case 14 -> x.worlds(n());
            case 15 -> x.alike(n(), few(), few());
            case 16 -> x.judge(n(), chance.nextLong() >>> chance.nextInt(64));
            case 17 -> x.hear(few(), n(), few(), chance.nextInt(2));
            case 18 -> x.unhear();
            case 19 -> x.secrets(n());
            case 20 -> x.share(n(), few(), chance.nextBoolean());
            case 21 -> x.muted(n(), chance.nextBoolean());
            case 22 -> x.seed(chance.nextLong());
            case 23 -> x.drawn(n());
            case 24 -> x.keep(n());
            case 25 -> x.again(n());
            default -> x.count(n());
        }
    }
}
