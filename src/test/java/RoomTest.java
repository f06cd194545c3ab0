import java.lang.management.ManagementFactory;
import java.util.Random;

/** How much an object takes up, that calls make nothing, and that no arguments make them fail. */
public final class RoomTest {
    private static final int[] EDGES = {Integer.MIN_VALUE, -101, -100, -4, -3, -2, -1, 0, 1, 2, 3, 4, 5,
        7, 8, 9, 10, 13, 14, 22, 23, 24, 25, 40, 50, 51, 100, 101, 3000, 0x61622e20, 0x612e0a0a,
        Integer.MAX_VALUE};

    private final Random random;
    private final EssayBones x = new EssayBones();

    private RoomTest(int seed) {
        random = new Random(seed);
    }

    public static void main(String[] args) {
        for (int seed = 0; seed < 400; seed++) {
            RoomTest run = new RoomTest(seed);
            for (int k = 0; k < 512; k++) {
                run.anyCall();
            }
            Check.isTrue("ended", run.x.count(0) <= 24);
        }
        room();
        Check.close();
    }

    private int any() {
        return random.nextInt(3) > 0 ? random.nextInt(8) : EDGES[random.nextInt(EDGES.length)];
    }

    private int anyText() {
        String signs = "aabbc'9  ,;:..!?\n\n\n";
        int four = 0;
        for (int k = 0; k < 4; k++) {
            int b = random.nextInt(400) == 0 ? random.nextInt(256) : signs.charAt(random.nextInt(signs.length()));
            four = four << 8 | b;
        }
        return four;
    }

    private int anyCall() {
        switch (random.nextInt(26)) {
            case 0: return x.end(any());
            case 1: x.end(random.nextInt(3)); return x.stop();
            case 2: x.end(random.nextInt(3)); return x.sign(any());
            case 3: x.end(random.nextInt(3)); return x.ending();
            case 4: return x.weight(any(), any());
            case 5: return x.read();
            case 6: return x.fault(any());
            case 7: return x.sentence(any(), any());
            case 8: return x.word(any(), any(), any());
            case 9: return x.shared(any(), any());
            case 10: return x.cost(any(), any());
            case 11: return x.tree();
            case 12: return x.next();
            case 13: return x.finding(any());
            case 14: return x.marks(any(), any(), any(), any(), any());
            case 15: return x.pair(any(), any());
            case 16: return x.order(any());
            case 17: return x.ordered(any());
            case 18: return x.stands(any());
            case 19: return x.arrange(any());
            case 20: return x.move(any(), any());
            case 21: return x.count(any());
            default: return x.feed(anyText(), anyText(), anyText(), anyText(), anyText());
        }
    }

    /** Bytes that this thread has asked for so far. */
    private static long asked() {
        return ((com.sun.management.ThreadMXBean) ManagementFactory.getThreadMXBean()).getCurrentThreadAllocatedBytes();
    }

    private static void room() {
        long before = asked();
        EssayBones x = new EssayBones();
        long made = asked() - before;
        Check.isTrue("a new object has " + made + " bytes", made < 250_000);
        Check.read(x, "Rain is good. Because corn grows. But roads flood.\n\nSo we like rain. We do.");
        before = asked();
        for (int k = 0; k < 100; k++) {
            x.feed(0x61622020, 0x20202020, 0x20202020, 0x20202020, 0x20202020);
            x.end(1 + k % 2);
            x.stop();
            x.weight(k % 4, k % 50);
            x.tree();
            x.next();
            x.marks(1, 2, 3, 4, 5);
            x.pair(k % 5, k % 3);
            x.order(k % 5);
            x.arrange(k % 5);
            x.move(k % 5, k % 6);
            x.sentence(k % 5, k % 8);
            x.feed(0x61622e20, 0x622e2020, 0x20202020, 0x20202020, 0x20202020);
            x.read();
        }
        long more = asked() - before;
        Check.isTrue("1400 calls made " + more + " bytes", more < 5_000);
    }
}
