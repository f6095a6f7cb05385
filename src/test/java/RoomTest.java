import com.sun.management.ThreadMXBean;
import java.lang.management.ManagementFactory;

/** All calls live in one room: an object makes its rows when it is made, and no call makes anything more. */
public final class RoomTest {
    private static final Check check = new Check();

    public static void main(String[] args) {
        if (!(ManagementFactory.getThreadMXBean() instanceof ThreadMXBean counter)
            || !counter.isThreadAllocatedMemorySupported()) {
            System.out.println("this machine does not count what is made");
            return;
        }
        int sum = 0;
        MustardTreaty[] objects = new MustardTreaty[60];
        for (int i = 0; i < objects.length; i++) {
            objects[i] = Check.talking("M59E530E291E252E443C160C281C300C433C100");
        }
        for (int i = 0; i < 30; i++) {
            sum += manyCalls(objects[i]);
        }
        long me = Thread.currentThread().getId();
        counter.getThreadAllocatedBytes(me);
        long before = counter.getThreadAllocatedBytes(me);
        for (int i = 30; i < 60; i++) {
            sum += manyCalls(objects[i]);
        }
        long made = counter.getThreadAllocatedBytes(me) - before;
        // A few hundred bytes may be the counter's own; an object for each call would be far more.
        check.holds("calls make nothing, but made " + made + " bytes", made < 4096);
        check.holds("the calls were done", sum != 0);
        check.end();
    }

    private static int manyCalls(MustardTreaty x) {
        int sum = 0;
        for (int i = 0; i < 10; i++) {
            sum += x.write('M') + x.fault() + x.about(7) + x.envoy(0, 4) + x.clause(0, 3);
            sum += x.bite() + x.say(2) + x.spice() + x.bread(2) + x.keep(0) + x.undo();
            sum += x.lasts() + x.bears(1) + x.best(5, true) + x.hot(0, 9) + x.spiceFor(3);
            sum += x.judge(6, 607000) + x.share(0, true) + x.see(0, 5, 1) + x.palates(0);
            sum += x.rests(0, 2, 0) + x.chance(2, 6, 3, true) + (int) x.seed(i) + x.talks(30) + x.again(0);
            sum += x.unsee() + x.talk() + x.say(99) + x.best(0, true);
        }
        return sum + x.wipe();
    }
}
