import java.lang.management.ManagementFactory;

/**
 * A run must fit one room of some 600,000 objects and 7.3 million fields and elements: all of them come with the object,
 * none with a call. What 512 of the dearest calls allocate is measured.
 */
public final class RoomTest {
    private static final long MOST_BYTES_OF_OBJECT = 400_000;
    private static final long MOST_BYTES_OF_CALLS = 20_000;

    public static void main(String[] args) {
        com.sun.management.ThreadMXBean bean = (com.sun.management.ThreadMXBean) ManagementFactory.getThreadMXBean();
        long id = Thread.currentThread().getId();
        run(bean, id);
        long before = bean.getThreadAllocatedBytes(id);
        MadeWhere x = new MadeWhere();
        long made = bean.getThreadAllocatedBytes(id) - before;
        long calls = run(bean, id);
        System.out.println("an object takes " + made + " bytes, its calls " + calls);
        if (x.count(0) != 0 || made > MOST_BYTES_OF_OBJECT || calls > MOST_BYTES_OF_CALLS) {
            System.out.println("that is too much");
            System.exit(1);
        }
    }

    private static long run(com.sun.management.ThreadMXBean bean, long id) {
        MadeWhere x = new MadeWhere();
        int[] text = Tapes.numbers("r:n<900|c>3?1;s:90");
        int[] more = Tapes.numbers(";d:a*3-o;g:[y+9]*9");
        long before = bean.getThreadAllocatedBytes(id);
        long sum = 0;
        x.members(0, 255, 0);
        x.feed(text[0], text[1], text[2], text[3], text[4]);
        x.feed(more[0], more[1], more[2], more[3], more[4]);
        sum += x.fault() + x.protocol(0, 0);
        for (int i = 0; i < 50; i++) sum += x.grown(i % 8, i, 10, 1000) + x.lay(i, 5) + x.lay(i / 2, 5) + x.made(i % 8, i, i % 10, 7, 100);
        for (int i = 0; i < 60; i++) sum += x.ship(i, 1, (i + 3) % 8, 0, i % 9) + (x.paper(i, i) ? 1 : 0);
        for (int i = 0; i < 12; i++) sum += x.offer(i / 3, i * 7, i, i, i % 8) + x.word(3, 200 + i);
        for (int i = 0; i < 12; i++) sum += x.book() + x.best(1, 2, 3, 4, 5) + x.struck(3) + x.check(2, i, 1) + x.moved(0, 1)
            + x.state(i, 0) + x.duty(i, 0) + x.own(90, 0, 0) + x.count(10);
        long after = bean.getThreadAllocatedBytes(id);
        if (sum == 0) System.out.println("nothing was asked");
        return after - before;
    }
}
