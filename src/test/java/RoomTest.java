import java.lang.management.ManagementFactory;

/** Calls make no objects: all rows are made with the object, so that 512 calls fit one room. */
public final class RoomTest {
    public static void main(String[] args) {
        Due due = new Due();
        due.about("the room");
        com.sun.management.ThreadMXBean threads =
            (com.sun.management.ThreadMXBean) ManagementFactory.getThreadMXBean();
        run(new RainCans());
        RainCans x = new RainCans();
        long before = threads.getCurrentThreadAllocatedBytes();
        int calls = run(x);
        long made = threads.getCurrentThreadAllocatedBytes() - before;
        due.holds(calls + " calls made " + made + " bytes", made < 4096);
        long first = threads.getCurrentThreadAllocatedBytes();
        new RainCans();
        long one = threads.getCurrentThreadAllocatedBytes() - first;
        due.holds("an object takes " + one + " bytes", one < 65536);
        due.end();
    }

    private static int run(RainCans x) {
        int calls = 0;
        for (int can = 0; can < 6; can++) {
            x.can(3 * can, 20 - 3 * can);
            for (int day = 0; day < 28; day++) {
                x.raw(can, day, (day * 37 + can * 11) % 90);
            }
            calls += 29;
        }
        for (int n = 0; n < 16; n++) {
            x.set(0, 10 + n);
            x.say('s');
            x.say('5');
            x.note(n % 6);
            x.week(n % 6, n, 0);
            x.breaks(n % 6, 0);
            x.chance(n % 6, n);
            x.set(2, 90);
            x.over(n, 0, 20, 0, 20, 0);
            x.place(0, 20, 0, 20);
            x.fill(n % 6, n, 0);
            x.seam(123456, -1);
            x.claim(n % 6, n);
            x.odds(n % 6, 0);
            x.forgets(n % 6, 0);
            x.image(n % 2);
            x.restore(n % 2);
            x.fix(n % 6, n, 5);
            calls += 18;
        }
        return calls;
    }
}
