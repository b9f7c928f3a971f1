/** Promises 24 to 28: moths, year, keep, back, count. */
public final class MothsAndYearsTest {
    private static final Check CHECK = new Check("MothsAndYearsTest");

    public static void main(String[] args) {
        moths();
        mothsOfAll();
        yearByHand();
        yearOfOne();
        yearOfNone();
        yearFromNow();
        yearRefused();
        keepAndBack();
        count();
        CHECK.end();
    }

    private static void moths(BottomDrawer d, int l, int x, int above, int below) {
        CHECK.due("moths(" + l + ", " + x + ", 0)", d.moths(l, x, 0), above);
        CHECK.due("moths(" + l + ", " + x + ", 1)", d.moths(l, x, 1), below);
    }

    private static void moths() {
        BottomDrawer d = Check.laid("r99,20;t0,1,0;t1,1,0;t0,1,0;l1,1,1;l1,1,1;l1,1,1;n0,0;n1,0;n1,1;");
        moths(d, 0, 5, 0, 1);
        moths(d, 2, 5, 1, 1);
        d.put(0);
        moths(d, 0, 3, 7, 10);
        moths(d, 0, 0, 1, 1);
        moths(d, 0, 10, 0, 1);
        moths(d, 0, 5, 1, 2);
        d.put(1);
        // PLAIN or FLANNEL is enough for LIFE 0: 1 - 9/100; LIFE 1 NEEDS both: 49/100.
        moths(d, 0, 3, 91, 100);
        moths(d, 1, 3, 49, 100);
        moths(d, 0, 5, 3, 4);
        d.put(2);
        moths(d, 0, 3, 91, 100);
        moths(d, 2, 10, 1, 1);
        CHECK.due("moths(3, 0, 0)", d.moths(3, 0, 0), BottomDrawer.BAD);
        CHECK.due("moths(-1, 0, 0)", d.moths(-1, 0, 0), BottomDrawer.BAD);
        CHECK.due("moths(0, 11, 0)", d.moths(0, 11, 0), BottomDrawer.BAD);
        CHECK.due("moths(0, -1, 0)", d.moths(0, -1, 0), BottomDrawer.BAD);
        CHECK.due("moths(0, 0, 2)", d.moths(0, 0, 2), BottomDrawer.BAD);
        CHECK.due("moths(0, 0, -1)", d.moths(0, 0, -1), BottomDrawer.BAD);
        CHECK.due("moths(max, max, max)",
                d.moths(Integer.MAX_VALUE, Integer.MAX_VALUE, Integer.MAX_VALUE), BottomDrawer.BAD);
    }

    private static void mothsOfAll() {
        BottomDrawer d = Check.laid("r99,20;t0,1,0;t0,1,0;t0,1,0;t0,1,0;t0,1,0;t0,1,0;t0,1,0;t1,1,0;l1,1,1;l1,1,1;"
                + "n0,0;n0,1;n0,2;n0,3;n0,4;n0,5;n0,6;n0,7;n1,0;n1,1;n1,2;n1,3;n1,4;n1,5;n1,6;");
        for (int t = 0; t < 8; t++) {
            d.put(t);
        }
        // All eight: 0.9^8; seven, or six of them and the FLANNEL: 0.9^7 + 7 * 0.1 * 0.9^6 * 0.9 = 1.7 * 0.9^7.
        moths(d, 0, 1, 43046721, 100000000);
        moths(d, 1, 1, 17 * 4782969, 100000000);
        moths(d, 0, 0, 1, 1);
        moths(d, 0, 9, 1, 100000000);
        moths(d, 0, 5, 1, 256);
        moths(d, 1, 5, 1 + 8, 256);
    }

    private static void year(BottomDrawer d, int z, int n, int lives, int coins) {
        CHECK.due("year(" + z + ", " + n + ", 0)", d.year(z, n, 0), lives);
        CHECK.due("year(" + z + ", " + n + ", 1)", d.year(z, n, 1), coins);
    }

    private static void yearByHand() {
        // z = 0: x = 1, DRAW 1: THING 1, 1/8 = 0 modulo 3 is 0, LIFE 0, 1/256 = 0 is even.
        // k = 1: x = 6152, x * x = 37847104, modulo 65521: 41487: THING 41487 modulo 3 = 0;
        //        41487/8 = 5185, modulo 3 is 1; 41487/32 = 1296, LIFE 0; 41487/256 = 162, even.
        // k = 2: x = 12303, x * x = 151363809, modulo 65521: 10299: THING 0; 1287 modulo 3 is 0;
        //        10299/32 = 321, LIFE 1; 10299/256 = 40, even.
        String text = "r9,7;t0,2,6;t0,2,5;t0,2,20;l1,1,1;l1,1,1;n0,1;n1,0;";
        BottomDrawer d = Check.laid(text);
        year(d, 0, 1, 1, 7 - 5 + 7);
        year(d, 0, 2, 1, 7 - 5 + 7 - 6 + 7);
        // In the third THING 0, which is in, is TAKEN OUT, so that LIFE 1 can't be LIVED.
        year(d, 0, 3, 1, 7 - 5 + 7 - 6 + 7 + 7);
        // In the first THING 1, which is in, is TAKEN OUT: LIFE 0 can't be LIVED, nor in the second YEAR.
        d.put(1);
        year(d, 0, 1, 0, 2 + 7);
        year(d, 0, 2, 0, 2 + 7 - 6 + 7);
    }

    private static void yearOfOne() {
        BottomDrawer d = Check.laid("t0,1,4;l1,1,1;");
        year(d, 0, 1, 1, 5 - 4 + 5);
        // z = 1: x = 7920, DRAW 22803: 22803/256 = 89 is odd, so that the LIFE is not LIVED.
        year(d, 1, 1, 0, 5 - 4 + 5);
        // z = 3: x = 23758, DRAW 44670: 5583 modulo 3 is 0; THING 0, which is in, is TAKEN OUT; 174 is even.
        BottomDrawer in = Check.laid("t0,1,4;l1,1,1;n0,0;");
        in.put(0);
        year(in, 3, 1, 0, 1 + 5);
        // z = 2: x = 15839, DRAW 59533: 7441 modulo 3 is 1, so that it stays; 232 is even.
        year(in, 2, 1, 1, 1 + 5);
        // z = 9999: x = 79182082, x * x is more than an int; DRAW 51303: THING 0; LIFE 1603 modulo 2; 200 is even.
        BottomDrawer far = Check.laid("t0,1,1;t0,1,2;t0,1,3;l1,1,1;l1,1,1;n0,1;n0,2;n1,0;");
        year(far, 9999, 1, 1, 5 - 1 + 5);
    }

    /** A THING that can't be put by for want of ROOM or COINS, and is not in, is not TAKEN OUT either. */
    private static void yearOfNone() {
        year(Check.laid("r1,0;t0,2,0;l1,1,1;n0,0;"), 0, 40, 0, 0);
        year(Check.laid("r9,0;t0,2,1;l1,1,1;n0,0;"), 0, 40, 0, 0);
    }

    private static void yearFromNow() {
        BottomDrawer d = new BottomDrawer();
        year(d, 5, 40, 3, 221);
        String before = Check.look(d);
        d.year(9999, 40, 0);
        d.year(0, 1, 1);
        CHECK.same("after YEARS by draws", Check.look(d), before);
        // LIVES that were LIVED are LIVED then too; COINS are 999 at most.
        BottomDrawer rich = Check.laid("r9,20;t0,1,0;l1,1,1;l1,1,1;t0,1,0;n1,0;n1,1;");
        rich.live(0);
        year(rich, 0, 1, 1, 40);
        for (int i = 0; i < 3; i++) {
            rich.pass(20);
        }
        year(rich, 3, 40, rich.year(3, 40, 0), 999);
    }

    private static void yearRefused() {
        BottomDrawer d = new BottomDrawer();
        int[][] bad = {{-1, 1, 0}, {10000, 1, 0}, {0, 0, 0}, {0, 41, 0}, {0, 1, -1}, {0, 1, 2},
            {Integer.MIN_VALUE, 1, 0}, {0, Integer.MAX_VALUE, 0}, {0, 1, Integer.MAX_VALUE}};
        for (int[] call : bad) {
            CHECK.due("year(" + call[0] + ", " + call[1] + ", " + call[2] + ")",
                    d.year(call[0], call[1], call[2]), BottomDrawer.BAD);
        }
        CHECK.due("year(9999, 40, 1)", d.year(9999, 40, 1) >= 0 ? 0 : 1, 0);
    }

    private static void keepAndBack() {
        BottomDrawer d = Check.laid("r9,9;t2,1,2;t0,1,3;l1,1,1;n0,0;");
        CHECK.due("back: none", d.back(), BottomDrawer.NO);
        d.put(0);
        CHECK.due("keep", d.keep(), 1);
        CHECK.due("what can be UNDONE stays", d.count(9), 1);
        d.live(0);
        d.pass(4);
        CHECK.due("keep again", d.keep(), 2);
        CHECK.due("keep, full", d.keep(), BottomDrawer.FULL);
        CHECK.due("KEPT", d.count(10), 2);
        d.put(1);
        d.see(1, true);
        d.write('x');
        d.write('y');
        CHECK.due("back", d.back(), 1);
        CHECK.due("LIVED, as KEPT last", d.count(5), 1);
        CHECK.due("empty, as KEPT last", d.count(3), 0);
        CHECK.due("COINS, as KEPT last", d.count(6), 43);
        CHECK.due("YEARS, as KEPT last", d.count(7), 4);
        CHECK.due("nothing is UNDONE", d.undo(), BottomDrawer.NO);
        CHECK.due("count(9)", d.count(9), 0);
        CHECK.due("SEEN stays", d.count(8), 1);
        CHECK.due("THE TEXT stays", d.count(11), 33);
        d.pass(1);
        CHECK.due("keep once more", d.keep(), 2);
        CHECK.due("back", d.back(), 1);
        CHECK.due("YEARS, as KEPT once more", d.count(7), 5);
        CHECK.due("back to the first", d.back(), 0);
        CHECK.due("not LIVED, as KEPT first", d.count(5), 0);
        CHECK.due("in it, as KEPT first", d.thing(0, 3), 1);
        CHECK.due("COINS, as KEPT first", d.count(6), 7);
        CHECK.due("YEARS, as KEPT first", d.count(7), 0);
        CHECK.due("back: no more", d.back(), BottomDrawer.NO);
        d.pass(1);
        CHECK.due("undo behind back", d.undo(), 0);
        CHECK.due("YEARS, undone", d.count(7), 0);
        CHECK.due("undo: nothing more", d.undo(), BottomDrawer.NO);
    }

    private static void count() {
        BottomDrawer d = Check.laid("r50,8;t0,1,1;t1,1,1;t2,1,1;l1,1,1;l1,1,1;l1,1,1;l1,1,1;l1,1,1;n0,0;n1,1;n2,2;n2,0;");
        d.put(0);
        d.put(2);
        d.pass(3);
        d.live(2);
        d.live(3);
        d.see(0, true);
        d.see(1, true);
        d.see(1, false);
        d.keep();
        // CAN BE: 0, 3, 4; 1 NEEDS 1, and what 2 NEEDS is gone.
        int[] due = {3, 5, 50, 1, 3, 2, 30, 3, 3, 5, 1, 82};
        for (int what = 0; what < due.length; what++) {
            CHECK.due("count(" + what + ")", d.count(what), due[what]);
        }
        CHECK.due("count(12)", d.count(12), BottomDrawer.BAD);
        CHECK.due("count(-1)", d.count(-1), BottomDrawer.BAD);
        CHECK.due("count(max)", d.count(Integer.MAX_VALUE), BottomDrawer.BAD);
        CHECK.due("count(min)", d.count(Integer.MIN_VALUE), BottomDrawer.BAD);
    }
}
