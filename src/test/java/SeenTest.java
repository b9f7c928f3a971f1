/** Promises 21 to 23: see, forget, meant. */
public final class SeenTest {
    private static final Check CHECK = new Check("SeenTest");

    public static void main(String[] args) {
        see();
        forget();
        meant();
        CHECK.end();
    }

    private static void see() {
        BottomDrawer d = new BottomDrawer();
        CHECK.due("see(6, true)", d.see(6, true), BottomDrawer.BAD);
        CHECK.due("see(-1, false)", d.see(-1, false), BottomDrawer.BAD);
        CHECK.due("see(max, true)", d.see(Integer.MAX_VALUE, true), BottomDrawer.BAD);
        CHECK.due("see(min, true)", d.see(Integer.MIN_VALUE, true), BottomDrawer.BAD);
        CHECK.due("SEEN: nothing", d.count(8), 0);
        for (int i = 1; i <= 8; i++) {
            CHECK.due("see no. " + i, d.see(i % 6, false), i);
        }
        String before = Check.look(d);
        CHECK.due("see(0, true), full", d.see(0, true), BottomDrawer.FULL);
        CHECK.due("see(6, true), full", d.see(6, true), BottomDrawer.BAD);
        CHECK.same("after refused calls", Check.look(d), before);
        CHECK.due("SEEN", d.count(8), 8);
    }

    private static void forget() {
        BottomDrawer d = new BottomDrawer();
        CHECK.due("forget: nothing", d.forget(), 0);
        d.see(0, true);
        d.see(0, true);
        d.see(0, false);
        CHECK.due("meant: none", d.meant(), 0);
        CHECK.due("forget", d.forget(), 3);
        CHECK.due("SEEN, forgotten", d.count(8), 0);
        CHECK.due("meant, forgotten", d.meant(), 15);
        CHECK.due("forget again", d.forget(), 0);
        CHECK.due("see anew", d.see(5, true), 1);
        CHECK.due("meant anew", d.meant(), 12);
    }

    private static void meant() {
        // The start: LIFE 0 NEEDS 0, 2; 1: 0, 3, 4; 2: 1, 5; 3: 3, 4, 5.
        BottomDrawer d = new BottomDrawer();
        CHECK.due("meant: all", d.meant(), 15);
        d.see(3, true);
        CHECK.due("meant by 3", d.meant(), 10);
        d.see(4, true);
        CHECK.due("meant by 3, 4", d.meant(), 10);
        d.see(0, false);
        CHECK.due("meant by 3, 4, not 0", d.meant(), 8);
        d.see(1, true);
        CHECK.due("meant by 3, 4, 1, not 0", d.meant(), 0);
        d.forget();
        d.see(2, false);
        d.see(1, false);
        CHECK.due("meant by neither 2 nor 1", d.meant(), 10);
        d.see(2, true);
        CHECK.due("seen to be and not to be", d.meant(), 0);
        // FLANNEL in place of one is no NEED; nor is it a matter what is in the drawer, or what was LIVED.
        BottomDrawer f = Check.laid("r9,9;t1,1,0;t0,1,0;l1,1,1;l1,1,1;n0,1;n1,0;");
        f.put(0);
        f.live(0);
        f.see(0, true);
        CHECK.due("meant by FLANNEL", f.meant(), 2);
        f.undo();
        f.undo();
        CHECK.due("meant by FLANNEL, out", f.meant(), 2);
    }
}
