import java.lang.management.ManagementFactory;
import java.lang.management.ThreadMXBean;

/** A call makes no objects: all room is taken as an object is made. */
public final class RoomTest {
    private static final Checks c = new Checks("RoomTest");

    public static void main(String[] args) {
        ThreadMXBean threads = ManagementFactory.getThreadMXBean();
        if (!(threads instanceof com.sun.management.ThreadMXBean room)) {
            c.due("no room is measured here", 0, 0);
            c.end();
            return;
        }
        long me = Thread.currentThread().getId();
        goThrough(new Kitchen());
        long before = room.getThreadAllocatedBytes(me);
        Kitchen x = new Kitchen();
        long made = room.getThreadAllocatedBytes(me) - before;
        before = room.getThreadAllocatedBytes(me);
        goThrough(x);
        long gone = room.getThreadAllocatedBytes(me) - before;
        c.due("an object takes 64 KB at most, not " + made, made <= 65536 ? 1 : 0, 1);
        c.due("its calls take next to nothing, not " + gone, gone <= 16384 ? 1 : 0, 1);
        c.end();
    }

    private static void goThrough(Kitchen x) {
        Checks.slab(x, 0, "t20 c5");
        Checks.slab(x, 1, "t7 c9");
        Checks.plan(x, 0, "i28:60 u i28:60 b9:60 r20");
        Checks.plan(x, 1, "o20:60 i30:9 d u");
        for (int i = 0; i < 5; i++) {
            x.dish(0, 0);
            x.go(200);
            x.keep(i % 3);
            x.on(i % 3);
            x.cut(60);
            x.rise();
            x.slice(0);
            x.most(0, 500, 649, 5);
            x.turns(0, 28, 120);
            x.off(0, 28, 2, 560);
            x.salt(0, 0);
            x.rest(0, 0);
            x.thick(0, 0, 500, 649);
            x.same(0, 1, 28, 3, 500, 500);
            x.order(3, 2);
            x.both(0, 1, 20, 500, 500);
            x.safe(0, 6);
            x.which(0);
            x.odds(0, 0);
            x.rule(0, 28, 3, 600);
            x.digest();
        }
    }
}
