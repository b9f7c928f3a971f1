/** Promises 15 to 20: best, cover, serves, row, bargain, talk. */
public final class WhatToPutByTest {
    private static final Check CHECK = new Check("WhatToPutByTest");

    public static void main(String[] args) {
        best();
        bestOfSeveral();
        bestFolding();
        cover();
        serves();
        row();
        rowLinen();
        rowOfMany();
        bargain();
        talk();
        talkAlike();
        nothingChanges();
        CHECK.end();
    }

    private static void best(BottomDrawer d, int n, int set, int above, int below) {
        CHECK.due("best(" + n + ", 0)", d.best(n, 0), set);
        CHECK.due("best(" + n + ", 1)", d.best(n, 1), above);
        CHECK.due("best(" + n + ", 2)", d.best(n, 2), below);
    }

    private static void best() {
        BottomDrawer d = Check.laid("r10,3;t0,4,3;t0,6,6;t0,5,9;l1,10,0;l1,20,0;l2,35,0;n0,0;n1,1;n2,2;");
        // COINS 3: {0}; 6: {1}; 9: {2}, 70, ahead of {0, 1}, 30; 12: {0, 2}, 80; {1, 2} takes 11 of 10.
        best(d, 0, 1, 5, 2);
        best(d, 1, 2, 5, 1);
        best(d, 2, 4, 35, 2);
        best(d, 3, 5, 20, 1);
        best(d, 20, 5, 20, 1);
        d.put(0);
        // What is in costs no more: COINS 0, then 9 behind 3 YEARS.
        best(d, 0, 1, 5, 2);
        best(d, 3, 5, 20, 1);
        d.pass(2);
        best(d, 0, 3, 15, 2);
        best(d, 1, 5, 20, 1);
        CHECK.due("best(-1, 0)", d.best(-1, 0), BottomDrawer.BAD);
        CHECK.due("best(21, 0)", d.best(21, 0), BottomDrawer.BAD);
        CHECK.due("best(0, 3)", d.best(0, 3), BottomDrawer.BAD);
        CHECK.due("best(0, -1)", d.best(0, -1), BottomDrawer.BAD);
        CHECK.due("best(max, 0)", d.best(Integer.MAX_VALUE, 0), BottomDrawer.BAD);
    }

    private static void bestOfSeveral() {
        // {0, 1} and {2} and {3} are worth as much; {2} has fewer than the first, is lower than the last.
        best(Check.laid("r20,20;t0,1,0;t0,1,0;t0,10,0;t0,10,0;l1,5,0;l1,5,0;l1,10,0;l1,10,0;n0,0;n1,1;n2,2;n3,3;n2,0;n2,0;"),
                0, 12, 5, 1);
        best(Check.laid("r9,20;t0,1,0;t0,1,0;t0,8,0;t0,8,0;l1,5,0;l1,5,0;l1,10,0;l1,10,0;n0,0;n1,1;n2,2;n3,3;"),
                0, 5, 15, 4);
        best(Check.laid("r8,20;t0,4,0;t0,4,0;t0,8,0;t0,8,0;l1,5,0;l1,5,0;l1,10,0;l1,10,0;n0,0;n1,1;n2,2;n3,3;"),
                0, 4, 5, 2);
        // Nothing is worth anything: the empty set, though the drawer is full.
        BottomDrawer none = Check.laid("r8,20;t0,4,0;l0,60,0;l5,0,60;n0,0;n1,0;");
        none.put(0);
        best(none, 0, 0, 0, 1);
        // A LIFE without NEEDS is worth what it is by the empty set.
        best(Check.laid("t0,1,0;l3,7,0;l1,0,0;n1,0;"), 0, 0, 21, 4);
        // FLANNEL in place of one.
        best(Check.laid("r9,20;t0,9,0;t1,9,1;l1,7,0;l1,9,0;n0,0;n1,1;"), 0, 2, 8, 1);
    }

    private static void bestFolding() {
        String things = "t3,9,0;t3,8,0;t0,1,0;l1,9,0;l1,9,0;l1,5,0;n0,0;n1,1;n2,2;";
        best(Check.laid("r9,20;" + things), 0, 7, 23, 3);
        best(Check.laid("r8,20;" + things), 0, 3, 6, 1);
        best(Check.laid("r7,20;" + things), 0, 4, 5, 3);
    }

    private static void cover(BottomDrawer d, int lives, int set, int many, int room) {
        CHECK.due("cover(" + lives + ", 0)", d.cover(lives, 0), set);
        CHECK.due("cover(" + lives + ", 1)", d.cover(lives, 1), many);
        CHECK.due("cover(" + lives + ", 2)", d.cover(lives, 2), room);
    }

    private static void cover() {
        // 0, 1: FOLDING; 2: FLANNEL; 3: PLAIN; more than ROOM and COINS are no matter.
        BottomDrawer d = Check.laid("r1,0;t3,9,20;t3,7,20;t1,20,20;t0,20,20;l1,1,1;l1,1,1;l1,1,1;l1,1,1;"
                + "n0,0;n0,1;n1,3;n2,0;n2,1;n2,3;");
        cover(d, 0, 0, 0, 0);
        cover(d, 8, 0, 0, 0);
        // {0, 1} is as few as {0, 2}, and lower; both fold.
        cover(d, 1, 3, 2, 7);
        cover(d, 2, 4, 1, 20);
        cover(d, 4, 7, 3, 27);
        cover(d, 3, 5, 2, 29);
        cover(d, 15, 7, 3, 27);
        d.put(3);
        cover(d, 2, 4, 1, 20);
        CHECK.due("cover(16, 0)", d.cover(16, 0), BottomDrawer.BAD);
        CHECK.due("cover(-1, 0)", d.cover(-1, 0), BottomDrawer.BAD);
        CHECK.due("cover(0, 3)", d.cover(0, 3), BottomDrawer.BAD);
        CHECK.due("cover(0, -1)", d.cover(0, -1), BottomDrawer.BAD);
        CHECK.due("cover(min, 0)", d.cover(Integer.MIN_VALUE, 0), BottomDrawer.BAD);
        BottomDrawer all = Check.laid("t0,2,0;t0,3,0;l1,1,1;n0,0;n0,1;");
        cover(all, 1, 3, 2, 5);
    }

    private static void serves() {
        BottomDrawer d = Check.laid("r99,20;t0,1,0;t0,1,0;t0,1,0;t1,1,0;l1,5,0;l1,9,0;l1,9,0;n0,0;n1,1;n2,2;n2,3;");
        CHECK.due("serves: none", d.serves(), BottomDrawer.NONE);
        d.put(0);
        CHECK.due("serves: the one", d.serves(), 0);
        d.put(1);
        CHECK.due("serves: 9 more than 5", d.serves(), 1);
        d.put(2);
        CHECK.due("serves: 2 alone is worth nothing", d.serves(), 1);
        d.put(3);
        CHECK.due("serves: FLANNEL stands in for 0 and 1", d.serves(), 2);
        d.out(0);
        d.out(1);
        CHECK.due("serves: 2 and 3", d.serves(), 3);
        BottomDrawer same = Check.laid("t0,1,0;t0,1,0;t0,1,0;l1,5,0;l1,5,0;n0,1;n1,2;");
        same.put(2);
        same.put(1);
        CHECK.due("serves: of several the lowest", same.serves(), 1);
        same.put(0);
        CHECK.due("serves: of all but one that serves not", same.serves(), 1);
        BottomDrawer none = Check.laid("t0,1,0;t0,1,0;l0,5,0;");
        none.put(1);
        CHECK.due("serves: one of no worth", none.serves(), 1);
    }

    private static void row(BottomDrawer d, int... lives) {
        CHECK.due("row(0)", d.row(0), lives.length);
        for (int k = 1; k <= 6; k++) {
            CHECK.due("row(" + k + ")", d.row(k), k <= lives.length ? lives[k - 1] : BottomDrawer.NONE);
        }
    }

    private static void row() {
        BottomDrawer d = Check.laid("r99,20;t0,1,0;t0,1,0;l1,1,1;l1,1,1;l1,1,1;n0,0;n1,1;n2,0;");
        row(d);
        d.put(0);
        row(d, 0, 2);
        d.put(1);
        row(d, 0, 1, 2);
        d.live(1);
        row(d, 0, 2);
        CHECK.due("row(-1)", d.row(-1), BottomDrawer.BAD);
        CHECK.due("row(7)", d.row(7), BottomDrawer.BAD);
        CHECK.due("row(max)", d.row(Integer.MAX_VALUE), BottomDrawer.BAD);
        CHECK.due("row(min)", d.row(Integer.MIN_VALUE), BottomDrawer.BAD);
        row(Check.laid("t0,1,0;l1,1,1;l1,1,1;l1,1,1;l1,1,1;l1,1,1;l1,1,1;"), 0, 1, 2, 3, 4, 5);
    }

    private static void rowLinen() {
        // LIFE 0 takes all LINEN: behind it none can be; 1 takes one, 2 the other, 3 none but NEEDS one.
        BottomDrawer d = Check.laid("r99,20;t2,1,0;t2,1,0;l1,1,1;l1,1,1;l1,1,1;n0,0;n0,1;n1,1;n2,0;");
        d.put(0);
        d.put(1);
        row(d, 1, 2);
        // FLANNEL stands in for what LIFE 1 took: 1, then 0 by FLANNEL; 0 first leaves FLANNEL for both.
        BottomDrawer f = Check.laid("r99,20;t2,1,0;t2,1,0;t1,1,0;l1,1,1;l1,1,1;l1,1,1;n0,0;n0,1;n1,1;n2,0;");
        f.put(0);
        f.put(1);
        f.put(2);
        row(f, 0, 1, 2);
        // LIFE 2 NEEDS the LINEN that 0 and 1 would take, and PLAIN beside it.
        BottomDrawer p = Check.laid("r99,20;t2,1,0;t0,1,0;t2,1,0;l1,1,1;l1,1,1;l1,1,1;n0,0;n0,2;n1,2;n2,1;n2,0;n2,1;n2,1;");
        p.put(0);
        p.put(1);
        p.put(2);
        row(p, 1, 2);
    }

    private static void rowOfMany() {
        // Each takes a LINEN one of its own, and the last two NEED one of these.
        BottomDrawer d = Check.laid("r99,20;t2,1,0;t2,1,0;t2,1,0;t0,1,0;l1,1,1;l1,1,1;l1,1,1;l1,1,1;l1,1,1;"
                + "n0,0;n1,1;n2,2;n3,0;n3,3;n4,1;n4,0;n4,1;n4,3;n4,2;n4,0;");
        for (int t = 0; t < 4; t++) {
            d.put(t);
        }
        // 3 NEEDS 0 as 0 does, 4 NEEDS 2 as 2 does: one of each two, and 1; 0, 1, 2 is the first.
        row(d, 0, 1, 2);
        d.live(0);
        row(d, 1, 2);
    }

    private static void bargain(int want, String lives, String needs) {
        BottomDrawer d = Check.laid("t0,1,0;" + lives + needs);
        CHECK.due("bargain of " + lives + needs, d.bargain(), want);
    }

    private static void bargain() {
        bargain(0, "l1,5,5;", "t0,1,0;n0,0;n0,1;");
        bargain(1, "l1,5,5;", "");
        bargain(3, "l1,5,5;l1,5,5;", "");
        bargain(1, "l1,5,6;l1,5,5;", "");
        bargain(2, "l1,5,5;l1,6,5;", "");
        bargain(3, "l1,5,6;l1,6,5;", "");
        bargain(13, "l1,0,60;l1,30,29;l1,30,30;l1,60,0;", "");
        bargain(15, "l1,0,60;l1,30,31;l1,40,30;l1,60,0;", "");
        // One that can not be is no match for one that can.
        bargain(1, "l1,5,5;l1,60,60;", "n1,0;");
        bargain(32, "l1,0,0;l1,0,1;l1,1,0;l1,1,1;l1,2,1;l1,2,2;", "");
        // P is no matter, nor that a LIFE was LIVED.
        BottomDrawer d = Check.laid("t0,1,0;l0,5,5;l9,4,4;");
        d.live(0);
        CHECK.due("bargain, LIVED", d.bargain(), 1);
    }

    private static void talk(int left, int first, String lives) {
        BottomDrawer d = Check.laid("t0,1,0;" + lives);
        CHECK.due("talk(0) of " + lives, d.talk(0), left);
        CHECK.due("talk(1) of " + lives, d.talk(1), first);
    }

    private static void talk() {
        int none = BottomDrawer.NONE;
        talk(none, none, "t0,1,0;l1,1,1;n0,0;n0,1;");
        talk(0, none, "l1,1,1;");
        talk(1, none, "l1,60,60;l1,1,1;n0,0;");
        talk(0, 1, "l1,9,0;l1,8,9;");
        talk(1, 0, "l1,8,9;l1,9,0;");
        // Three: she strikes, he strikes, one is left: what he likes better of two.
        // Without 0: he leaves 2 (hers 1); without 1: he leaves 2; without 2: he leaves 1 (hers 5).
        talk(1, 2, "l1,9,1;l1,5,2;l1,1,3;");
        // Looking ahead: she strikes out her best, 0, for he would strike it out in any case.
        talk(2, 1, "l1,60,0;l1,1,60;l1,30,30;");
        // Four: she, he, she. Of two she leaves her better, so that he can't come by 3, whatever she
        // strikes out first; he would rather have 2 than 1 left, as she would: without 0, 1 or 3 it is 2.
        talk(2, 0, "l1,10,1;l1,20,2;l1,30,3;l1,5,60;");
        // Four: without 0 he strikes out 3 and 2 is left (of 1, 2; hers 3); without 1 he strikes out 0
        // and 3 is left (of 2, 3; hers 4), as it is without 2: she strikes out 1, the lower.
        talk(3, 1, "l1,9,1;l1,1,9;l1,3,8;l1,4,7;");
        BottomDrawer d = new BottomDrawer();
        CHECK.due("talk(-1)", d.talk(-1), BottomDrawer.BAD);
        CHECK.due("talk(2), none", d.talk(2), BottomDrawer.BAD);
        CHECK.due("talk(max)", d.talk(Integer.MAX_VALUE), BottomDrawer.BAD);
        // Whom she strikes out first, asked ahead of all else.
        CHECK.due("talk(1), asked first", Check.laid("t0,1,0;l1,9,1;l1,1,9;l1,3,8;l1,4,7;").talk(1), 1);
        // One that was LIVED is talked of like others, while it CAN BE.
        BottomDrawer lived = Check.laid("t0,1,0;l1,9,0;l1,8,9;");
        lived.live(0);
        CHECK.due("talk(0), LIVED", lived.talk(0), 0);
    }

    private static void talkAlike() {
        talk(1, 0, "l1,7,0;l1,7,9;");
        talk(1, 0, "l1,7,9;l1,7,0;");
        // All alike: she strikes 0, he 1, she 2, ..
        talk(2, 0, "l1,7,7;l1,7,7;l1,7,7;");
        talk(3, 0, "l1,7,7;l1,7,7;l1,7,7;l1,7,7;");
        talk(5, 0, "l1,7,7;l1,7,7;l1,7,7;l1,7,7;l1,7,7;l1,7,7;");
        // Alike in being worth nothing.
        talk(1, 0, "l1,0,0;l1,0,0;");
        talk(2, 0, "l1,0,0;l1,0,0;l1,0,0;");
        // Alike to her, whatever it is worth to him: she strikes the lowest; he then leaves 2.
        talk(2, 0, "l1,7,9;l1,7,1;l1,7,5;");
        // Alike to him: he strikes out the lower of what is left.
        talk(1, 2, "l1,5,7;l1,9,7;l1,1,7;");
    }

    private static void nothingChanges() {
        BottomDrawer d = new BottomDrawer();
        d.put(0);
        d.pass(2);
        d.put(1);
        d.put(2);
        String before = Check.look(d);
        d.best(3, 0);
        d.cover(15, 0);
        d.serves();
        d.row(0);
        d.row(2);
        d.bargain();
        d.talk(0);
        d.talk(1);
        d.moths(0, 3, 0);
        d.year(7, 40, 0);
        d.worth(63, 0);
        CHECK.same("after what only asks", Check.look(d), before);
    }
}
