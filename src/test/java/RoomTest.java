import java.lang.management.ManagementFactory;

/** What a run makes: rows are made with the object, and no call makes more, so that 512 dear calls stay in the room. */
public final class RoomTest {
    private static final Due due = new Due("RoomTest");
    private static final String LAND = "......" + ".^..~." + "......" + "..^..." + ".~...." + "......";

    public static void main(String[] args) {
        com.sun.management.ThreadMXBean bean = (com.sun.management.ThreadMXBean) ManagementFactory.getThreadMXBean();
        run(new SevenLeagues());
        long id = Thread.currentThread().getId();
        long start = bean.getThreadAllocatedBytes(id);
        SevenLeagues x = new SevenLeagues();
        long made = bean.getThreadAllocatedBytes(id);
        run(x);
        long end = bean.getThreadAllocatedBytes(id);
        System.out.println("RoomTest: an object takes " + (made - start) + " bytes, its calls " + (end - made));
        due.holds("an object is small", made - start < 20000);
        due.holds("calls make nothing", end - made < 20000);
        due.end();
    }

    private static long run(SevenLeagues x) {
        long sum = x.land(6, 6);
        for (int i = 0; i < LAND.length(); i++) {
            sum += x.say(LAND.charAt(i));
        }
        sum += x.lay() + x.boots(1, 0, 5) + x.change(0, true) + x.person(0, 0, 0) + x.person(1, 35, 1) + x.image(0);
        for (int n = 0; n < 27; n++) {
            sum += x.far(1, 0, 35, n) + x.reached(1, n % 6) + x.worn(1, 0, 35) + x.changed(0, 1, 0, 35, 0);
            sum += x.time(1, 0, 35) + x.errands(1, 1L << 35 | 1L << 30 | 1L << 5 | 6, 0) + x.meet(0) + x.made(1L << 35, 35, 0);
            sum += x.ask(0) + x.after(1, 0, 12) + x.ways(1, 0, 35, 12) + x.chance(1, 0, 35, 5, 1);
            sum += x.guard(1, 0, 0, 35, 0) + x.year(1, n, 99, 1) + x.image(1) + x.restore(n % 2) + x.judge(0);
        }
        sum += x.land(4, 4) + x.posts(0, 1) + x.posts(1, 1) + x.posts(2, 1) + x.posts(3, 1);
        return sum;
    }
}
