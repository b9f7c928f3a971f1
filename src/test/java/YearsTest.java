/** Promises 10 to 14: put, out, live, pass, undo. */
public final class YearsTest {
    private static final Check CHECK = new Check("YearsTest");

    public static void main(String[] args) {
        put();
        putFolding();
        out();
        live();
        pass();
        undo();
        undoEach();
        undoOfMany();
        refused();
        CHECK.end();
    }

    private static void put() {
        BottomDrawer d = Check.laid("r10,9;t0,6,4;t0,5,5;t0,4,6;t0,4,5;t0,1,0;l1,1,1;");
        CHECK.due("put(0)", d.put(0), 4);
        CHECK.due("they paid", d.count(6), 5);
        CHECK.due("put(0): in", d.put(0), BottomDrawer.NO);
        CHECK.due("put(1): takes 5 of 4", d.put(1), BottomDrawer.NO);
        CHECK.due("put(2): costs 6 of 5", d.put(2), BottomDrawer.NO);
        CHECK.due("put(3): takes 4 of 4, costs 5 of 5", d.put(3), 0);
        CHECK.due("they paid all", d.count(6), 0);
        CHECK.due("in it", d.count(3), 2);
        CHECK.due("put(4): takes 1 of 0", d.put(4), BottomDrawer.NO);
        CHECK.due("put(5)", d.put(5), BottomDrawer.BAD);
        CHECK.due("put(-1)", d.put(-1), BottomDrawer.BAD);
        CHECK.due("put(32)", d.put(32), BottomDrawer.BAD);
        CHECK.due("put(max)", d.put(Integer.MAX_VALUE), BottomDrawer.BAD);
        CHECK.due("put(min)", d.put(Integer.MIN_VALUE), BottomDrawer.BAD);
    }

    private static void putFolding() {
        BottomDrawer d = Check.laid("r10,20;t3,10,0;t3,9,0;t0,1,0;t0,2,0;l1,1,1;");
        CHECK.due("put(0)", d.put(0), 0);
        CHECK.due("put(3): takes 2 of 0", d.put(3), BottomDrawer.NO);
        CHECK.due("put(1): both fold", d.put(1), 1);
        CHECK.due("put(2)", d.put(2), 0);
        CHECK.due("out(1): one does not fold", d.out(1), -1);
        CHECK.due("put(3): 13 of 10", d.put(3), BottomDrawer.NO);
        CHECK.due("put(1) into more than is there", d.put(1), 0);
    }

    private static void out() {
        BottomDrawer d = Check.laid("r10,9;t0,6,4;t0,3,5;l1,1,1;");
        CHECK.due("out(0): not in", d.out(0), BottomDrawer.NO);
        d.put(0);
        d.put(1);
        CHECK.due("out(0)", d.out(0), 7);
        CHECK.due("they get nothing", d.count(6), 0);
        CHECK.due("out(0) again", d.out(0), BottomDrawer.NO);
        CHECK.due("put(0): no COINS", d.put(0), BottomDrawer.NO);
        CHECK.due("out(1)", d.out(1), 10);
        CHECK.due("out(2)", d.out(2), BottomDrawer.BAD);
        CHECK.due("out(-1)", d.out(-1), BottomDrawer.BAD);
        CHECK.due("out(min)", d.out(Integer.MIN_VALUE), BottomDrawer.BAD);
    }

    private static void live() {
        // 0, 1: LINEN; 2: FLANNEL; 3: PLAIN; 4: LINEN that none NEEDS.
        BottomDrawer d = Check.laid("r99,20;t2,1,0;t2,1,0;t1,1,0;t0,1,0;t2,1,0;l1,1,1;l1,1,1;l1,1,1;l1,1,1;"
                + "n0,0;n0,1;n0,3;n1,3;n2,0;n3,2;n3,0;");
        CHECK.due("live(0): nothing is in", d.live(0), BottomDrawer.NO);
        for (int t = 0; t < 5; t++) {
            d.put(t);
        }
        CHECK.due("live(1): no LINEN", d.live(1), 0);
        CHECK.due("live(1): it was", d.live(1), BottomDrawer.NO);
        CHECK.due("live(0): its LINEN", d.live(0), 3);
        CHECK.due("what it does not NEED stays", d.count(3), 3);
        CHECK.due("LIFE 2 CAN BE by FLANNEL", d.life(2, 4), 1);
        CHECK.due("live(2): its LINEN is not in", d.live(2), 0);
        CHECK.due("FLANNEL stays", d.thing(2, 3), 1);
        CHECK.due("live(3): its own FLANNEL serves not", d.live(3), BottomDrawer.NO);
        CHECK.due("LIVED", d.count(5), 3);
        CHECK.due("put(0) again", d.put(0), 95);
        CHECK.due("live(3)", d.live(3), 1);
        CHECK.due("live(3) once more", d.live(3), BottomDrawer.NO);
        CHECK.due("live(4)", d.live(4), BottomDrawer.BAD);
        CHECK.due("live(-1)", d.live(-1), BottomDrawer.BAD);
        CHECK.due("live(32)", d.live(32), BottomDrawer.BAD);
        CHECK.due("live(min)", d.live(Integer.MIN_VALUE), BottomDrawer.BAD);
        CHECK.due("COINS stay", d.count(6), 20);
        CHECK.due("the YEAR stays", d.count(7), 0);
    }

    private static void pass() {
        BottomDrawer d = Check.laid("r10,19;t0,6,4;l1,1,1;");
        CHECK.due("pass(0)", d.pass(0), BottomDrawer.BAD);
        CHECK.due("pass(21)", d.pass(21), BottomDrawer.BAD);
        CHECK.due("pass(-1)", d.pass(-1), BottomDrawer.BAD);
        CHECK.due("pass(max)", d.pass(Integer.MAX_VALUE), BottomDrawer.BAD);
        CHECK.due("no YEAR went by", d.count(7), 0);
        CHECK.due("pass(1)", d.pass(1), 38);
        CHECK.due("pass(20)", d.pass(20), 418);
        CHECK.due("YEARS", d.count(7), 21);
        CHECK.due("pass(20)", d.pass(20), 798);
        CHECK.due("pass(10)", d.pass(10), 988);
        CHECK.due("pass(1): 999 at most", d.pass(1), 999);
        CHECK.due("pass(20): 999 at most", d.pass(20), 999);
        CHECK.due("YEARS go on", d.count(7), 72);
        d.put(0);
        CHECK.due("COINS", d.count(6), 995);
        CHECK.due("pass(1)", d.pass(1), 999);
    }

    private static void undo() {
        BottomDrawer d = Check.laid("r99,5;t0,6,4;l1,1,1;");
        CHECK.due("undo: nothing", d.undo(), BottomDrawer.NO);
        for (int i = 1; i <= 10; i++) {
            d.pass(2);
            CHECK.due("can be UNDONE", d.count(9), Math.min(i, 8));
        }
        CHECK.due("COINS", d.count(6), 105);
        for (int i = 7; i >= 0; i--) {
            CHECK.due("undo", d.undo(), i);
            CHECK.due("COINS, undone", d.count(6), 25 + 10 * i);
            CHECK.due("YEARS, undone", d.count(7), 4 + 2 * i);
        }
        CHECK.due("undo: the last 8 were", d.undo(), BottomDrawer.NO);
        CHECK.due("COINS stay", d.count(6), 25);
    }

    private static void undoEach() {
        BottomDrawer d = Check.laid("r99,5;t2,6,4;t0,1,1;l1,1,1;n0,0;");
        String[] looks = new String[6];
        looks[0] = Check.look(d);
        d.put(0);
        looks[1] = Check.look(d);
        d.pass(20);
        looks[2] = Check.look(d);
        d.put(1);
        looks[3] = Check.look(d);
        d.live(0);
        looks[4] = Check.look(d);
        d.out(1);
        for (int i = 4; i >= 0; i--) {
            CHECK.due("undo", d.undo(), i);
            CHECK.same("undone to " + i, Check.look(d), looks[i]);
        }
        // What is SEEN, KEPT and written is none of these.
        d.put(0);
        d.see(0, true);
        d.keep();
        d.write('r');
        CHECK.due("undo put(0)", d.undo(), 0);
        CHECK.due("SEEN stays", d.count(8), 1);
        CHECK.due("KEPT stays", d.count(10), 1);
        CHECK.due("THE TEXT stays", d.count(11), 32 + 1);
        CHECK.due("put by as KEPT", d.back(), 0);
        CHECK.due("is in", d.thing(0, 3), 1);
    }

    /** Of more than 8 the last 8, each with all that it changed. */
    private static void undoOfMany() {
        BottomDrawer d = manyDone(12);
        for (int i = 7; i >= 0; i--) {
            CHECK.due("undo of many", d.undo(), i);
            // What stands at count(9) was less while the first were still at hand.
            CHECK.same("undone of many to " + i, behindCounts(Check.look(d)), behindCounts(Check.look(manyDone(4 + i))));
        }
        CHECK.due("undo of many: no more", d.undo(), BottomDrawer.NO);
    }

    /** The first of twelve things done, on an object of its own: looks at one alone would come to more than 512 calls. */
    private static BottomDrawer manyDone(int many) {
        BottomDrawer d = Check.laid("r99,20;t2,6,4;t0,1,1;t2,2,2;l1,1,1;l1,1,1;n0,0;n1,2;");
        for (int i = 0; i < many; i++) {
            switch (i) {
                case 0: d.put(0); break;
                case 1: d.live(0); break;
                case 2: d.put(1); break;
                case 3: d.put(2); break;
                case 4: d.live(1); break;
                case 5: d.pass(3); break;
                case 6: d.put(2); break;
                case 7: d.out(1); break;
                case 8: d.put(0); break;
                case 9: d.put(1); break;
                case 10: d.out(2); break;
                default: d.out(0); break;
            }
        }
        return d;
    }

    /** A look without its counts from 9 on. */
    private static String behindCounts(String look) {
        String[] counts = look.split(" ", 13);
        counts[9] = "";
        return String.join(" ", counts);
    }

    private static void refused() {
        BottomDrawer d = new BottomDrawer();
        d.put(0);
        String before = Check.look(d);
        int[] answers = {d.put(0), d.put(4), d.put(6), d.out(1), d.out(-1), d.live(1), d.live(4), d.pass(0), d.pass(21)};
        int no = BottomDrawer.NO;
        int bad = BottomDrawer.BAD;
        int[] due = {no, no, bad, no, bad, no, bad, bad, bad};
        for (int i = 0; i < due.length; i++) {
            CHECK.due("refused call " + i, answers[i], due[i]);
        }
        CHECK.same("after refused calls", Check.look(d), before);
    }
}
