import com.sun.management.ThreadMXBean;
import java.lang.management.ManagementFactory;
import java.util.Random;

/** No call throws or fails to end, and a run stays within its room, however many layers its beds get. */
public final class RoomTest {
    // 7.3 million fields and elements, most of them ints.
    private static final long MOST_BYTES = 4L * 7_300_000;
    private static final int[] ODD = {Integer.MIN_VALUE, Integer.MIN_VALUE + 1, -7, -6, -2, -1, 0, 1, 2, 3, 4, 5, 6, 7, 8,
        9, 10, 11, 12, 13, 18, 19, 20, 30, 50, 51, 60, 99, 100, 200, 400, Integer.MAX_VALUE - 1, Integer.MAX_VALUE};
    private static final Due due = new Due("RoomTest");
    private static final ThreadMXBean thread = (ThreadMXBean) ManagementFactory.getThreadMXBean();

    private RoomTest() {
    }

    public static void main(String[] args) {
        anyArguments();
        anObjectIsSmall();
        usualCallsMakeNothing();
        manyLayersAreKept();
        theHighestHeap();
        due.end();
    }

    private static long bytes() {
        return thread.getThreadAllocatedBytes(Thread.currentThread().getId());
    }

    private static void anyArguments() {
        for (int run = 0; run < 60; run++) {
            Random random = new Random(run);
            ChalkBeds beds = new ChalkBeds();
            int least = 0;
            for (int i = 0; i < 512; i++) {
                int odd = random.nextInt(22);
                least = Math.min(least, call(beds, odd, random));
            }
            due.holds("run " + run + ": answers are numbers, NONE or error codes, not " + least, least >= -6);
        }
    }

    private static int any(Random random) {
        return random.nextInt(3) == 0 ? random.nextInt(12) : ODD[random.nextInt(ODD.length)];
    }

    private static int call(ChalkBeds beds, int which, Random random) {
        int a = any(random);
        int b = any(random);
        int c = any(random);
        switch (which) {
            case 0: return beds.set(a, b);
            case 1: return beds.rock(a, b);
            case 2: return beds.lay(a, b, c);
            case 3: return beds.read();
            case 4: return beds.dig(a, b);
            case 5: return beds.rain(a, b);
            case 6: return beds.settle();
            case 7: return beds.cell(a, b);
            case 8: return beds.layer(a, b, c);
            case 9: return beds.count(a);
            case 10: return beds.water(a, b);
            case 11: return beds.power(a, b);
            case 12: return beds.leastRain(a, b);
            case 13: return beds.feeds(a);
            case 14: return beds.ifRained(a, b, c);
            case 15: return beds.untilBare(a, b);
            case 16: return beds.put(random.nextBoolean() ? random.nextLong() : Texts.packed("0:f1,m2"));
            case 17: return beds.wipe();
            case 18: return beds.fault();
            case 19: return beds.undo();
            case 20: return beds.save(a);
            default: return beds.restore(a);
        }
    }

    private static void anObjectIsSmall() {
        new ChalkBeds();
        long before = bytes();
        ChalkBeds beds = new ChalkBeds();
        long made = bytes() - before;
        due.holds("an object takes " + made + " bytes", made < 64_000 && beds.count(18) == 0);
    }

    private static void usualCallsMakeNothing() {
        ChalkBeds beds = new ChalkBeds();
        Texts.put(beds, "0:f9,m9,c9;5:c99,f50;9:m70");
        beds.read();
        beds.save(0);
        beds.ifRained(50, 50, 0);
        bytes();
        long before = bytes();
        for (int i = 0; i < 60; i++) {
            beds.ifRained(50 - i % 50, 50, i % 4);
            beds.untilBare(5, 1);
            beds.rain(1 + i % 50, 20);
            beds.settle();
            beds.restore(0);
            beds.undo();
            beds.fault();
            beds.leastRain(3, 2);
        }
        long made = bytes() - before;
        due.holds("480 calls make " + made + " bytes", made < 4_000);
    }

    /** Fine grains from the one side and coarse ones from the other fall into a gap in turns. */
    private static void manyLayersAreKept() {
        ChalkBeds beds = new ChalkBeds();
        long before = bytes();
        int calls = 0;
        for (int k = 0; k < 12; k++) {
            beds.rock(k, 0);
            calls++;
        }
        for (int i = 0; i < 200; i++) {
            beds.lay(4, 0, 99);
            beds.lay(6, 2, 99);
            calls += 2;
        }
        int layers = 0;
        while (calls < 500) {
            beds.rain(1, 20);
            beds.save(calls % 2);
            calls += 2;
            layers = Math.max(layers, beds.cell(5, 6));
            calls++;
        }
        long made = bytes() - before;
        int laid = beds.count(11);
        due.holds("many layers: " + layers, layers > 5_000);
        due.is("no grain is lost", beds.count(8) + beds.count(5) + beds.count(6) + beds.count(7), laid);
        due.holds("a run of many layers makes " + made + " bytes", made < MOST_BYTES / 4);
    }

    private static void theHighestHeap() {
        ChalkBeds beds = new ChalkBeds();
        int calls = 0;
        while (calls + 10 < 512) {
            String text = "0:f99,m99,f99,m99,f99,m99,f99,m99,f99,m99,f99,m99,f99,m99";
            Texts.put(beds, text);
            beds.read();
            calls += 1 + (text.length() + 7) / 8 + 1;
        }
        int grains = 14 * 99 * (calls / 10);
        due.is("the grains of the highest heap", beds.cell(0, 2), grains);
        due.is("its height", beds.cell(0, 0), grains + 120);
        due.is("its power", beds.power(0, 50), 50 * (grains + 10) / 10);
    }
}
