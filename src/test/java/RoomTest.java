import java.lang.management.ManagementFactory;

/** All calls of a run live in one small room: no call makes an object or an array. */
public final class RoomTest {
    private static final String TEXT = "r60,20;t0,6,4;t1,5,2;t2,4,3;t3,8,5;t3,9,7;t2,3,1;t1,1,1;t0,2,2;l5,30,10;l3,50,5;"
            + "l2,20,40;l1,60,60;l4,9,8;l7,8,9;n0,0;n0,2;n1,4;n1,0;n1,3;n2,1;n2,5;n3,4;n4,7;n4,2;";

    public static void main(String[] args) {
        Check check = new Check("RoomTest");
        com.sun.management.ThreadMXBean threads = (com.sun.management.ThreadMXBean) ManagementFactory.getThreadMXBean();
        long self = Thread.currentThread().getId();
        long sum = 0;
        // Some rounds ahead, so that what the Java machine itself makes at first is made.
        for (int round = 0; round < 20; round++) {
            BottomDrawer d = new BottomDrawer();
            for (int i = 0; i < TEXT.length(); i++) {
                d.write(TEXT.charAt(i));
            }
            long before = threads.getThreadAllocatedBytes(self);
            long nothing = threads.getThreadAllocatedBytes(self) - before;
            before = threads.getThreadAllocatedBytes(self);
            sum += everyCall(d);
            long made = threads.getThreadAllocatedBytes(self) - before - nothing;
            if (round >= 10) {
                check.due("bytes that all calls make, round " + round, made <= 0 ? 0 : made, 0);
            }
        }
        check.due("the calls answer alike each time", sum % 20, 0);
        check.end();
    }

    private static long everyCall(BottomDrawer d) {
        long sum = d.fault() + d.lay();
        for (int t = 0; t < 8; t++) {
            sum += d.pass(1) + d.put(t) + d.thing(t, 4) + d.see(t, t % 2 == 0) + d.worth((2 << t) - 1, 0);
        }
        sum += d.keep() + d.meant() + d.forget() + d.room();
        for (int l = 0; l < 6; l++) {
            sum += d.life(l, 4) + d.moths(l, 3, 0) + d.row(l) + d.best(l, 0) + d.cover((2 << l) - 1, 0);
        }
        sum += d.serves() + d.bargain() + d.talk(0) + d.talk(1) + d.year(99, 40, 0);
        for (int i = 0; i < 6; i++) {
            sum += d.live(i) + d.count(4);
        }
        sum += d.out(0) + d.undo() + d.back() + d.wipe() + d.write('r');
        return sum;
    }
}
