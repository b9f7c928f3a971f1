/** Promises 1 to 9: a new object, write, wipe, fault, lay, thing, life, room, worth. */
public final class DrawersTest {
    private static final Check CHECK = new Check("DrawersTest");
    /** The text that a new object is laid of. */
    private static final String START = "r24,6;t0,6,4;t1,5,2;t2,4,3;t3,8,5;t0,9,7;t2,3,1;l5,30,10;l3,50,5;l2,20,40;"
            + "l0,60,60;n0,0;n0,2;n1,4;n1,0;n1,3;n2,1;n2,5;n3,4;n3,5;n3,3;";

    public static void main(String[] args) {
        newObject();
        write();
        wipe();
        faultOfForm();
        faultOfNumbers();
        faultOfWhatIsTold();
        lay();
        layAnew();
        thing();
        life();
        room();
        worth();
        CHECK.end();
    }

    private static void newObject() {
        BottomDrawer d = new BottomDrawer();
        int[] counts = {6, 4, 24, 0, 0, 0, 6, 0, 0, 0, 0, 0};
        for (int what = 0; what < counts.length; what++) {
            CHECK.due("new count(" + what + ")", d.count(what), counts[what]);
        }
        BottomDrawer same = Check.laid(START);
        same.wipe();
        CHECK.same("a new object", Check.look(d), Check.look(same));
        CHECK.due("new fault", d.fault(), BottomDrawer.NONE);
        CHECK.due("new undo", d.undo(), BottomDrawer.NO);
        CHECK.due("new back", d.back(), BottomDrawer.NO);
        CHECK.due("new forget", d.forget(), 0);
        BottomDrawer other = new BottomDrawer();
        other.put(0);
        CHECK.due("another object's drawer", d.count(3), 0);
    }

    private static void write() {
        BottomDrawer d = new BottomDrawer();
        CHECK.due("write(31)", d.write(31), BottomDrawer.BAD);
        CHECK.due("write(127)", d.write(127), BottomDrawer.BAD);
        CHECK.due("write(-1)", d.write(-1), BottomDrawer.BAD);
        CHECK.due("write(65536 + 't')", d.write(65536 + 't'), BottomDrawer.BAD);
        CHECK.due("write(min)", d.write(Integer.MIN_VALUE), BottomDrawer.BAD);
        CHECK.due("write(max)", d.write(Integer.MAX_VALUE), BottomDrawer.BAD);
        CHECK.due("write(32)", d.write(32), 1);
        CHECK.due("write(126)", d.write(126), 2);
        for (int i = 3; i <= 200; i++) {
            CHECK.due("write no. " + i, d.write('a'), i);
        }
        CHECK.due("write no. 201", d.write('a'), BottomDrawer.FULL);
        CHECK.due("write(31), full", d.write(31), BottomDrawer.BAD);
        CHECK.due("letters, full", d.count(11), 200);
    }

    private static void wipe() {
        BottomDrawer d = Check.written("x1,");
        CHECK.due("wipe", d.wipe(), 3);
        CHECK.due("letters, wiped", d.count(11), 0);
        CHECK.due("wipe again", d.wipe(), 0);
        CHECK.due("fault, wiped", d.fault(), BottomDrawer.NONE);
        CHECK.due("lay, wiped", d.lay(), BottomDrawer.NO);
        CHECK.due("things as laid", d.count(0), 6);
        CHECK.due("write, wiped", d.write('r'), 1);
        BottomDrawer full = new BottomDrawer();
        for (int i = 0; i < 200; i++) {
            full.write(' ');
        }
        CHECK.due("wipe, full", full.wipe(), 200);
        CHECK.due("write, wiped", full.write(' '), 1);
    }

    private static void fault(String text, int want) {
        CHECK.due("fault of " + text, Check.written(text).fault(), want);
    }

    private static void faultOfForm() {
        int none = BottomDrawer.NONE;
        fault("r20,5;", none);
        fault("r01,05;", none);
        fault("r1,00;", none);
        fault("r", 0);
        fault("r2", 0);
        fault("r20", 0);
        fault("r20,", 0);
        fault("r20,5", 0);
        fault(";", 0);
        fault("5", 0);
        fault("20,5;", 0);
        fault("R20,5;", 0);
        fault("s20,5;", 0);
        fault(" r20,5;", 0);
        fault("r20,5; ", 6);
        fault("r 20,5;", 0);
        fault("r20 ,5;", 0);
        fault("r20;", 0);
        fault("r;", 0);
        fault("r,;", 0);
        fault("r,5;", 0);
        fault("r20,;", 0);
        fault("r020,5;", 0);
        fault("r20,005;", 0);
        fault("r20,5,1;", 0);
        fault("r20,5,;", 0);
        fault("r20,5;;", 6);
        fault("r20:5;", 0);
        fault("r2/,5;", 0);
        fault("r20,-5;", 0);
        fault("r20,5;r20,5r20,5;", 6);
        fault("t0,1;", 0);
        fault("t0,1,0,0;", 0);
        fault("l1,1;", 0);
        fault("l1,1,1,1;", 0);
        fault("t0,1,0;l1,1,1;n0;", 14);
        fault("t0,1,0;l1,1,1;n0,0,0;", 14);
        fault("t0,1,0;l1,1,1;n00,00;", none);
        fault("t0,1,0;x;y;", 7);
    }

    private static void faultOfNumbers() {
        int none = BottomDrawer.NONE;
        fault("r0,5;", 0);
        fault("r00,5;", 0);
        fault("r1,5;", none);
        fault("r99,20;", none);
        fault("r99,21;", 0);
        fault("r99,0;", none);
        fault("t0,1,0;t1,1,0;t2,20,20;t3,1,0;", none);
        fault("t4,1,0;", 0);
        fault("t10,1,0;", 0);
        fault("t0,0,0;", 0);
        fault("t0,21,0;", 0);
        fault("t0,1,21;", 0);
        fault("t0,99,0;", 0);
        fault("l0,0,0;l9,60,60;", none);
        fault("l10,0,0;", 0);
        fault("l0,61,0;", 0);
        fault("l0,0,61;", 0);
        fault("l0,0,60;r20,5;t0,1,21;", 14);
    }

    private static void faultOfWhatIsTold() {
        int none = BottomDrawer.NONE;
        fault("n0,0;", 0);
        fault("t0,1,0;n0,0;l1,1,1;", 7);
        fault("l1,1,1;n0,0;t0,1,0;", 7);
        fault("l1,1,1;t0,1,0;n0,0;n0,0;n0,0;", none);
        fault("l1,1,1;t0,1,0;n1,0;", 14);
        fault("l1,1,1;t0,1,0;n0,1;", 14);
        fault("l1,1,1;t0,1,0;n0,1;t0,1,0;", 14);
        fault("l1,1,1;t0,1,0;t0,1,0;n0,1;", none);
        fault("l1,1,1;t0,1,0;n0,99;", 14);
        fault(Check.times("t0,1,0;", 8), none);
        fault(Check.times("t0,1,0;", 9), 56);
        fault(Check.times("l1,1,1;", 6), none);
        fault(Check.times("l1,1,1;", 7), 42);
        fault(Check.times("r9,9;", 40), none);
        fault(Check.times("r9,9;", 39) + "r9,9:", 195);
        // A fault is looked for anew each time.
        BottomDrawer d = Check.written(Check.times("t0,1,0;", 8));
        CHECK.due("fault", d.fault(), none);
        CHECK.due("fault again", d.fault(), none);
        Check.write(d, "l1,1,1;n0,7;");
        CHECK.due("fault of more", d.fault(), none);
        d.wipe();
        Check.write(d, "n0,0;");
        CHECK.due("fault of other", d.fault(), 0);
        CHECK.due("things as laid at first", d.count(0), 6);
    }

    private static void lay() {
        BottomDrawer d = Check.written("t0,1,0;l1,2,3;l4,5,6;n1,0;");
        d.see(0, true);
        d.see(1, false);
        d.put(0);
        d.pass(3);
        d.put(2);
        d.live(0);
        d.keep();
        d.keep();
        CHECK.due("lay", d.lay(), 2);
        int[] counts = {1, 2, 20, 0, 1, 0, 5, 0, 0, 0, 0, 26};
        for (int what = 0; what < counts.length; what++) {
            CHECK.due("laid count(" + what + ")", d.count(what), counts[what]);
        }
        CHECK.due("meant, laid", d.meant(), 3);
        CHECK.due("undo, laid", d.undo(), BottomDrawer.NO);
        CHECK.due("back, laid", d.back(), BottomDrawer.NO);
        CHECK.due("needs, laid", d.life(1, 3), 1);
        d.put(0);
        CHECK.due("lay again", d.lay(), 2);
        CHECK.due("empty again", d.count(3), 0);

        layRefused("t0,1,0;");
        layRefused("l1,1,1;");
        layRefused("r20,5;");
        layRefused("");
        layRefused("t0,1,0;l1,1,1;n0,1;");
        layRefused("t0,1,0;l1,1,1;n0,0");

        BottomDrawer last = Check.laid("r9,9;t0,1,0;r7,2;l1,1,1;r30,0;");
        CHECK.due("the last r: ROOM", last.count(2), 30);
        CHECK.due("the last r: COINS", last.count(6), 0);
        last.pass(20);
        CHECK.due("COINS by none a year", last.count(6), 0);
    }

    /** Nothing of a text that was laid before, or looked through for a FAULT, is left in the next. */
    private static void layAnew() {
        String other = "r7,19;t1,3,0;t2,3,0;t3,4,0;t3,6,0;t3,8,0;l9,9,9;l8,8,8;n0,0;n0,1;n0,2;n1,0;n1,1;";
        String plain = "r90,9;t0,9,0;t0,7,0;t0,5,0;t0,3,0;l1,1,1;n0,1;n0,3;";
        BottomDrawer d = Check.laid(other);
        d.fault();
        d.lay();
        d.wipe();
        Check.write(d, plain);
        CHECK.due("lay of another text", d.lay(), 1);
        BottomDrawer fresh = Check.laid(plain);
        for (int t = 0; t < 4; t++) {
            CHECK.due("put(" + t + "), laid anew", d.put(t), fresh.put(t));
            CHECK.same("laid anew", Check.look(d), Check.look(fresh));
        }
        CHECK.due("live(0), laid anew", d.live(0), 0);
        d.wipe();
        Check.write(d, "t0,1,0;l1,1,1;");
        d.lay();
        CHECK.due("ROOM without r, laid anew", d.count(2), 20);
        CHECK.due("COINS without r, laid anew", d.count(6), 5);
        CHECK.due("NEEDS, laid anew", d.life(0, 3), 0);
    }

    private static void layRefused(String text) {
        BottomDrawer d = Check.written(text);
        d.see(0, true);
        d.put(0);
        d.keep();
        String before = Check.look(d);
        CHECK.due("lay of " + text, d.lay(), BottomDrawer.NO);
        CHECK.same("after lay of " + text, Check.look(d), before);
    }

    private static void thing() {
        BottomDrawer d = Check.laid("r12,6;t2,3,4;t3,10,6;t1,9,7;t0,1,2;l1,1,1;l1,1,1;l1,1,1;n0,0;n2,0;n2,3;n1,3;n1,3;");
        int[][] due = {{2, 3, 4, 0, 1, 5}, {3, 10, 6, 0, 1, 0}, {1, 9, 7, 0, 0, 0}, {0, 1, 2, 0, 1, 4}};
        for (int t = 0; t < 4; t++) {
            for (int what = 0; what <= 5; what++) {
                CHECK.due("thing(" + t + ", " + what + ")", d.thing(t, what), due[t][what]);
            }
        }
        d.put(0);
        CHECK.due("in", d.thing(0, 3), 1);
        CHECK.due("can't be put by: in", d.thing(0, 4), 0);
        CHECK.due("can be: 2 COINS, 9 of ROOM left", d.thing(3, 4), 1);
        CHECK.due("can't be: 6 COINS of 2", d.thing(1, 4), 0);
        d.pass(1);
        CHECK.due("can't be: takes 10 of 9", d.thing(1, 4), 0);
        CHECK.due("can be: takes 9 of 9, costs 7 of 8", d.thing(2, 4), 1);
        CHECK.due("thing(-1, 0)", d.thing(-1, 0), BottomDrawer.BAD);
        CHECK.due("thing(4, 0)", d.thing(4, 0), BottomDrawer.BAD);
        CHECK.due("thing(0, -1)", d.thing(0, -1), BottomDrawer.BAD);
        CHECK.due("thing(0, 6)", d.thing(0, 6), BottomDrawer.BAD);
        CHECK.due("thing(max, 0)", d.thing(Integer.MAX_VALUE, 0), BottomDrawer.BAD);
        CHECK.due("thing(min, 6)", d.thing(Integer.MIN_VALUE, 6), BottomDrawer.BAD);
    }

    private static void life() {
        // 0: PLAIN, 1 and 2: FLANNEL, 3: LINEN; what LIFE 3 NEEDS is told and taken back.
        BottomDrawer d = Check.laid("r99,20;t0,1,0;t1,1,0;t1,1,0;t2,1,0;l9,60,7;l1,2,60;l0,0,0;l4,5,6;"
                + "n0,0;n0,1;n1,3;n2,0;n2,1;n2,3;n3,2;n3,2;");
        int[][] due = {{9, 60, 7, 3, 0, 0}, {1, 2, 60, 8, 0, 0}, {0, 0, 0, 11, 0, 0}, {4, 5, 6, 0, 1, 0}};
        for (int l = 0; l < 4; l++) {
            for (int what = 0; what <= 5; what++) {
                CHECK.due("life(" + l + ", " + what + ")", d.life(l, what), due[l][what]);
            }
        }
        canBe(d, 1, false, false, false);
        d.put(1);
        // FLANNEL 1 serves LIFE 1, which does not NEED it; LIFE 0 NEEDS it itself.
        canBe(d, 2, false, true, false);
        d.put(2);
        canBe(d, 6, true, true, false);
        d.put(3);
        canBe(d, 14, true, true, true);
        d.out(2);
        canBe(d, 10, false, true, false);
        d.put(0);
        canBe(d, 11, true, true, true);
        d.live(1);
        CHECK.due("was LIVED", d.life(1, 5), 1);
        CHECK.due("was LIVED and CAN BE by FLANNEL", d.life(1, 4), 1);
        CHECK.due("was not LIVED", d.life(0, 5), 0);
        CHECK.due("life(-1, 0)", d.life(-1, 0), BottomDrawer.BAD);
        CHECK.due("life(4, 0)", d.life(4, 0), BottomDrawer.BAD);
        CHECK.due("life(0, -1)", d.life(0, -1), BottomDrawer.BAD);
        CHECK.due("life(0, 6)", d.life(0, 6), BottomDrawer.BAD);
        CHECK.due("life(max, max)", d.life(Integer.MAX_VALUE, Integer.MAX_VALUE), BottomDrawer.BAD);
    }

    private static void canBe(BottomDrawer d, int drawer, boolean... lives) {
        for (int l = 0; l < lives.length; l++) {
            CHECK.due("life(" + l + ", 4) by " + drawer, d.life(l, 4), lives[l] ? 1 : 0);
        }
        CHECK.due("life(3, 4) by " + drawer + ", needing none", d.life(3, 4), 1);
    }

    private static void room() {
        BottomDrawer d = Check.laid("r40,20;t3,9,0;t3,7,0;t3,5,0;t0,9,0;t2,1,0;l1,1,1;");
        int[][] due = {{0, 9}, {3, 18}, {1, 4 + 3 + 9}, {2, 4 + 3 + 2 + 9}, {4, 4 + 3 + 2 + 9 + 1}};
        CHECK.due("room, empty", d.room(), 0);
        for (int[] step : due) {
            d.put(step[0]);
            CHECK.due("room with " + step[0], d.room(), step[1]);
        }
        d.out(0);
        CHECK.due("room, two FOLDING", d.room(), 3 + 2 + 9 + 1);
        d.out(2);
        CHECK.due("room, one FOLDING", d.room(), 7 + 9 + 1);
        BottomDrawer one = Check.laid("r9,9;t3,1,0;t3,1,0;l1,1,1;");
        one.put(0);
        CHECK.due("room, one of 1", one.room(), 1);
        one.put(1);
        CHECK.due("room, two of 1: each cut", one.room(), 0);
    }

    private static void worth() {
        BottomDrawer d = Check.laid("t0,1,0;t1,1,0;t0,1,0;l4,30,1;l2,9,1;l0,60,1;l6,7,1;n0,0;n0,2;n1,1;n2,0;n3,0;n3,1;n3,2;");
        // P together 12. By 5: LIVES 0 and 2: 120 of 12; by 2: 1 and 2 (FLANNEL): 18 of 12.
        worth(d, 0, 0, 1);
        worth(d, 5, 10, 1);
        worth(d, 2, 3, 2);
        worth(d, 1, 0, 1);
        // By 3: LIFE 0 (0, and FLANNEL for 2), 1, 2; LIFE 3 NEEDS the FLANNEL itself: 138 of 12.
        worth(d, 3, 23, 2);
        worth(d, 7, 15, 1);
        CHECK.due("worth(8, 0)", d.worth(8, 0), BottomDrawer.BAD);
        CHECK.due("worth(-1, 0)", d.worth(-1, 0), BottomDrawer.BAD);
        CHECK.due("worth(0, -1)", d.worth(0, -1), BottomDrawer.BAD);
        CHECK.due("worth(0, 2)", d.worth(0, 2), BottomDrawer.BAD);
        CHECK.due("worth(min, 0)", d.worth(Integer.MIN_VALUE, 0), BottomDrawer.BAD);

        BottomDrawer none = Check.laid("t0,1,0;l0,60,60;");
        worth(none, 0, 0, 1);
        worth(none, 1, 0, 1);
        BottomDrawer full = Check.laid(Check.times("t0,1,0;", 8) + Check.times("l9,60,60;", 6));
        worth(full, 255, 60, 1);
        CHECK.due("worth(256, 0)", full.worth(256, 0), BottomDrawer.BAD);
        // A LIFE that was LIVED counts as it did.
        BottomDrawer lived = Check.laid("t0,1,0;l1,7,1;l1,8,1;n0,0;");
        worth(lived, 1, 15, 2);
        lived.live(1);
        worth(lived, 1, 15, 2);
    }

    private static void worth(BottomDrawer d, int set, int above, int below) {
        CHECK.due("worth(" + set + ", 0)", d.worth(set, 0), above);
        CHECK.due("worth(" + set + ", 1)", d.worth(set, 1), below);
    }
}
