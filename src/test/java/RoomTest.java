import java.lang.management.ManagementFactory;
import java.util.function.IntConsumer;

/** All calls of a run live in one room: no call but text() makes anything, and an object is small. */
final class RoomTest {
    private static final com.sun.management.ThreadMXBean BEAN =
            (com.sun.management.ThreadMXBean) ManagementFactory.getThreadMXBean();

    public static void main(String[] args) {
        CountsIfCounted[] kept = new CountsIfCounted[100];
        Due.that("an object is small", bytesOf(i -> kept[i % 100] = new CountsIfCounted(), 100) < 100 * 12000);
        CountsIfCounted x = Due.under("counts 12 + joy * (day < 9); joys good - seen; goes number and 1 or not house = 3;");
        for (int kind = 0; kind < 5; kind++) {
            x.person(kind, kind, 20 * kind, kind);
        }
        x.film(0, 1, 20);
        x.sheet(1, 0, 20);
        x.sheet(2, 2, 40);
        x.image();
        IntConsumer calls = i -> {
            x.set(0, 0, i);
            x.person(0, 0, 0, 0);
            x.told(0, 8);
            x.feed('x');
            x.force(i % 2);
            x.day(1);
            x.walks(1, 0);
            x.run(40, 1, 1);
            x.when(0, 1);
            x.row(3, 0);
            x.begin(20, 1, 0);
            x.holds(1);
            x.self(0);
            x.tells(0, 0, 1, i % 8);
            x.film(0, 1, 20);
            x.drawn(i, 40);
            x.chance(i, 20, 2, 0);
            x.image();
            x.back();
            x.count(i);
            x.sheet(3, i % 3, 40);
            x.cell(3, i % 40, i);
            x.copy(0, 0, 2, 3, 9);
            x.census(2, 2, 0, 5);
            x.taken(0, 1);
        };
        Due.that("calls make nothing", bytesOf(calls, 200) < 200 * 8);
        Due.end();
    }

    private static long bytesOf(IntConsumer calls, int times) {
        calls.accept(0);
        long ahead = BEAN.getThreadAllocatedBytes(Thread.currentThread().getId());
        for (int i = 0; i < times; i++) {
            calls.accept(i);
        }
        return BEAN.getThreadAllocatedBytes(Thread.currentThread().getId()) - ahead;
    }
}
