import java.lang.management.ManagementFactory;

/** All calls of a run live in one room: an object is small, and its calls make nothing. */
public final class RoomTest {
    private static long made() {
        com.sun.management.ThreadMXBean bean = (com.sun.management.ThreadMXBean) ManagementFactory.getThreadMXBean();
        return bean.getThreadAllocatedBytes(Thread.currentThread().getId());
    }

    private static int dearCalls(StainStreet x) {
        int sum = 0;
        for (int i = 0; i < 100; i++) {
            sum += x.days(60) + x.years(1, i) + x.undo() + x.sham(i % 8, i % 9) + x.hang(i % 8, i % 9);
            sum += x.ahead(60, 0) + x.soonest(7) + x.visits(60) + x.empty(60) + x.goesTo() + x.least(7, 0) + x.rid();
            sum += x.white(7) + x.treaties(3, -1) + x.rests(0, 7, -1) + x.who(5, -1) + x.best(5) + x.forms();
            sum += x.odds(7, 33) + x.shares(0, 999) + x.most(3) + x.image() + x.back() + x.fault(0) + x.fault(1);
            sum += x.log(59, 0) + x.count(11) + x.give(1) + x.move(0, 1) + x.piano(2) + x.whiten(3);
        }
        return sum;
    }

    private static StainStreet busyStreet() {
        StainStreet x = Check.street("sd1h0;hm9;hm8;hm7;hm6;hm5;hm4;hm3;hm2;fn1;fn2;fn3;fn4;fn5;fn0");
        Check.law(x, "y:!(m<3&w=0|g>[p+1]*2)?m*2+w-g/2+t;y:d>3?m+[t-d]*2;y:m");
        x.seen(40, 0, false);
        x.was(60, 0, false);
        Check.feed(x, "y:!(m<3&w=0|g>[p+1]*2)?m*2+w-g/2+t;y:d>3?m+[t-d]*2;y:m");
        return x;
    }

    public static void main(String[] args) {
        dearCalls(busyStreet());
        StainStreet x = busyStreet();
        made();
        long before = made();
        long own = made() - before;
        before = made();
        StainStreet other = new StainStreet();
        long object = made() - before - own;
        Check.due("a new object takes at most 64 KiB, not " + object, object <= 65536, true);
        Check.due("a new object has no street", other.count(0), 0);
        before = made();
        dearCalls(x);
        long calls = made() - before - own;
        Check.due("calls make nothing, not " + calls, calls <= 16384, true);
        Check.end("RoomTest");
    }
}
