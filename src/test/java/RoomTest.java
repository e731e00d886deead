import java.lang.management.ManagementFactory;

/** All calls of a run live in one room: the calls make nothing, and an object is small. */
public final class RoomTest {
    private static final int TIMES = 512;

    private RoomTest() {
    }

    private static long made() {
        return ((com.sun.management.ThreadMXBean) ManagementFactory.getThreadMXBean())
                .getThreadAllocatedBytes(Thread.currentThread().getId());
    }

    public static void main(String[] args) {
        CoalStreet x = Streets.trusting(1, 2, 3, 4, 5, 6, 7);
        long before = made();
        CoalStreet other = new CoalStreet();
        long of = made() - before;
        Check.same("a new object takes less than 100,000 bytes", true, of < 100000 && other.count(0) == 0);
        calls(x, 2);
        before = made();
        calls(x, TIMES / 16);
        of = made() - before;
        Check.same("bytes that " + TIMES + " calls take: " + of, true, of < 2000);
        Check.end();
    }

    private static long calls(CoalStreet x, int times) {
        long sum = 0;
        for (int i = 0; i < times; i++) {
            x.feed(0x73746570, 0x20312039, 0x3b737465, 0x70203820, 0x373b2020);
            sum += x.text(20);
            x.want(i % 7, 0, i % 9);
            sum += x.least(127) + x.group(127, 3) + x.come(63, 6) + x.join(7, 120, 3) + x.bought(127, 0);
            x.can(31);
            x.share(31, 3, true);
            x.row(31, 4);
            x.ruled(127, 4);
            sum += x.keeps(127) + x.before(127);
            x.tray(0, 3, 40);
            sum += x.proof(0, 31, 3) ? 1 : 0;
            x.image(1);
            x.restore(1);
            sum += x.seller(7, 3, 1, 0);
        }
        return sum;
    }
}
