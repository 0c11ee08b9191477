import com.sun.management.ThreadMXBean;
import java.lang.management.ManagementFactory;

/** No call makes an object, and no arguments in any state make the machine throw. */
public final class RoomTest {
    private static final Check check = new Check();
    private static final int[] NUMBERS = {Integer.MIN_VALUE, -1000000, -5, -4, -3, -2, -1, 0, 1, 2, 3, 4, 5, 6, 7, 8, 9, 10, 11, 12,
        13, 29, 30, 31, 90, 91, 99, 100, 119, 120, 121, 9990, 9999, 10000, Integer.MAX_VALUE};
    private static final String GREATEST = "s20,9,1,1;s20,8,2,2;s20,7,3,3;s20,6,4,4;s20,5,5,5;s20,4,6,6;"
        + "a1,2,3,1;a2,3,4,1;a3,4,5,1;a4,5,6,1;a5,6,7,1;a6,7,8,1;t0,0;t1,1;t2,0;t3,1;t4,0;t5,1;t0,0;t1,0;c3;p99,1;";
    private static long sum;

    public static void main(String[] args) {
        StageSieve[] houses = {new StageSieve(), Check.laid(GREATEST), Check.laid("s1,0,0,0;a10,0,10,30;"), new StageSieve()};
        Check.write(houses[3], "s1,1,1,1;a1,1,1,1;x");
        for (StageSieve x : houses) {
            anyArguments(x);
        }
        ThreadMXBean threads = (ThreadMXBean) ManagementFactory.getThreadMXBean();
        long self = Thread.currentThread().getId();
        long nothing = -threads.getThreadAllocatedBytes(self) + threads.getThreadAllocatedBytes(self);
        StageSieve x = Check.laid(GREATEST);
        long before = threads.getThreadAllocatedBytes(self);
        eachCall(x);
        long after = threads.getThreadAllocatedBytes(self);
        check.due("bytes made by calls", Math.max(0, after - before - nothing), 0);
        check.due("calls were made", sum == 0 ? 0 : 1, 1);
        check.end();
    }

    private static void eachCall(StageSieve x) {
        for (int i = 0; i < 20; i++) {
            sum += x.keep() + x.fault() + x.lay() + x.keep() + x.back() + x.does(1, 1, i % 4, 2) + x.noRow() + x.step(i % 6, i % 2);
            sum += x.left(-1) + x.share(i % 6) + x.bent(i % 2) + x.odds(i % 13) + x.best(1 + i % 3, 90, i % 13, 0);
            sum += x.felt(i % 6, i % 4, 1) + x.words(i % 6) + x.harm(i % 6, 1) + x.people(i % 2) + x.tells() + x.relief(0, 0, 0);
            sum += x.worth(i % 6, 3) + x.tell(0, 0, 4, 2) + x.man(0) + x.forget() + x.night(i, 0) + x.one(i, i) + x.nights(i, i);
            sum += x.write(8, i) + x.wipe() + x.count(i % 8);
            x.write(1, 'x');
        }
    }

    private static void anyArguments(StageSieve x) {
        for (int a : NUMBERS) {
            sum += x.left(a) + x.share(a) + x.bent(a) + x.odds(a) + x.words(a) + x.people(a) + x.man(a) + x.count(a);
            for (int b : NUMBERS) {
                sum += x.harm(a, b) + x.worth(a, b) + x.night(a, b) + x.one(a, b) + x.nights(a, b) + x.step(a, b);
                sum += x.felt(a, b, 0) + x.relief(a, b, 1) + x.does(a, 0, b, 2) + x.does(0, a, b, 1) + x.tell(a, b, 2, 1)
                    + x.tell(0, 0, a, b) + x.best(a, b, 6, 0) + x.best(2, 90, a, b) + x.write(a, b);
            }
            sum += x.keep() + x.forget() + x.noRow() + x.fault() + x.tells();
        }
        sum += x.lay() + x.back() + x.wipe();
    }
}
