/**
 * Things put by and taken out, lives lived, years that go by and what is undone, at their edges: promises
 * 10 to 14. Above each test stand the document's words that it holds the class to.
 */
public final class EdgesOfYearsTest {
    private static final Check CHECK = new Check("EdgesOfYearsTest");
    private static final int NO = BottomDrawer.NO;

    public static void main(String[] args) {
        putIfItIsIn();
        putByCoins();
        putByRoom();
        putFolding();
        putWhereMoreIsInThanItsRoom();
        putIsRefusedByEach();
        out();
        outOfFolding();
        liveOnce();
        liveWhatCanNotBe();
        liveLinen();
        liveSix();
        yearsThatGoBy();
        coins999AtMost();
        coins999Paid();
        undoNothing();
        undoTheLast8();
        undoWhatGoesByAtOneTime();
        undoNoRefusedCall();
        undoNoOtherCall();
        undoBehindUndo();
        undoLeaves();
        CHECK.end();
    }

    /** "A THING that is not in the DRAWER is PUT BY"; "NO: it is in". */
    private static void putIfItIsIn() {
        Edges in = new Edges(CHECK, d -> {
            Edges.lay(d, "r99,20;t0,1,0;t3,1,0;t0,1,0;l0,0,0;");
            d.put(0);
            d.put(1);
        });
        in.refused("put(0), in", d -> d.put(0), NO);
        in.refused("put(1), in", d -> d.put(1), NO);
        in.due("put(2), not in", d -> d.put(2), 96);
        in.due("put(0), TAKEN OUT", d -> d.out(0) - d.put(0), 1);
    }

    /** "if the AUNTS have the COINS that it costs": as many as they have, none more; "they pay". */
    private static void putByCoins() {
        for (int coins = 0; coins <= 20; coins++) {
            for (int cost = 0; cost <= 20; cost++) {
                BottomDrawer d = Check.laid("r20," + coins + ";t0,1," + cost + ";l0,0,0;");
                boolean can = cost <= coins;
                CHECK.due("put(0) of " + cost + " by " + coins, d.put(0), can ? 19 : NO);
                CHECK.due("COINS behind it", d.count(6), can ? coins - cost : coins);
                CHECK.due("THINGS behind it", d.count(3), can ? 1 : 0);
            }
        }
        Edges less = Edges.ofText(CHECK, "r20,19;t0,1,20;t0,1,19;t0,1,0;l0,0,0;");
        less.refused("put(0) of 20 by 19", d -> d.put(0), NO);
        less.due("put(2) without COINS", d -> d.put(1) + d.put(2), 19 + 18);
    }

    /** "and all in it take no more than its ROOM with it"; "what is left of ROOM". */
    private static void putByRoom() {
        for (int room = 1; room <= 41; room++) {
            for (int size = 1; size <= 20; size++) {
                BottomDrawer d = Check.laid("r" + room + ",0;t0," + size + ",0;t0,20,0;l0,0,0;");
                CHECK.due("put(0) of " + size + " in " + room, d.put(0), size <= room ? room - size : NO);
                int left = room - (size <= room ? size : 0);
                CHECK.due("put(1) of 20 in " + left, d.put(1), left >= 20 ? left - 20 : NO);
            }
        }
        Edges more = new Edges(CHECK, d -> {
            Edges.lay(d, "r99,20;" + Check.times("t0,20,0;", 4) + "t0,19,0;t0,1,0;t0,20,0;l0,0,0;");
            for (int t = 0; t <= 3; t++) {
                d.put(t);
            }
        });
        more.refused("put(6) of 20 in 19 left of 99", d -> d.put(6), NO);
        more.due("put(4) of 19 in 19 left of 99", d -> d.put(4), 0);
        more.due("put(5) of 1 in 0 left of 99", d -> d.put(4) + d.put(5), NO);
    }

    /** "but each FOLDING one half of that, cut, if there are two or more": all in it are looked at with the new one. */
    private static void putFolding() {
        for (int one = 1; one <= 20; one++) {
            for (int other = 1; other <= 20; other++) {
                BottomDrawer d = Check.laid("r" + one + ",0;t3," + one + ",0;t3," + other + ",0;t3,1,0;l0,0,0;");
                CHECK.due("put(0) of FOLDING " + one, d.put(0), 0);
                int left = one - one / 2 - other / 2;
                CHECK.due("put(1) of FOLDING " + other + " beside " + one, d.put(1), left >= 0 ? left : NO);
                CHECK.due("put(2) of FOLDING 1, which takes none beside another", d.put(2),
                        left >= 0 ? left : one - one / 2);
            }
        }
        Edges small = Edges.ofText(CHECK, "r9,0;t3,10,0;t3,8,0;l0,0,0;");
        small.refused("put(0) of FOLDING 10, alone in 9", d -> d.put(0), NO);
        small.due("put(0) of FOLDING 10 beside another in 9", d -> d.put(1) + d.put(0), 1 + 0);
    }

    /** Where a FOLDING one was TAKEN OUT, all in it may take more than its ROOM: then only what makes it fit goes in. */
    private static void putWhereMoreIsInThanItsRoom() {
        Edges over = new Edges(CHECK, d -> {
            Edges.lay(d, "r10,20;t3,10,0;t3,9,0;t0,1,0;t0,1,0;t3,11,0;t3,13,0;l0,0,0;");
            d.put(0);
            d.put(1);
            d.put(2);
            d.out(1);
        });
        over.due("room", d -> d.room(), 11);
        over.due("thing(3, 4)", d -> d.thing(3, 4), 0);
        over.refused("put(3)", d -> d.put(3), NO);
        over.refused("put(5): 5, 6 and 1 take 12", d -> d.put(5), NO);
        over.due("put(1): 5, 4 and 1 take 10", d -> d.put(1), 0);
        over.refused("put(4): 5, 5 and 1 take 11", d -> d.put(4), NO);
        over.due("out(2)", d -> d.out(2), 0);
        over.due("out(0)", d -> d.out(0), 9);
    }

    /** "BAD; NO: it is in, costs more, takes more": one of these is enough, all of them are NO too. */
    private static void putIsRefusedByEach() {
        Edges edges = new Edges(CHECK, d -> {
            Edges.lay(d, "r10,5;t0,6,5;t0,4,1;t0,5,0;t0,5,1;t0,4,0;l0,0,0;");
            d.put(0);
        });
        edges.refused("put(0): in, costs and takes more", d -> d.put(0), NO);
        edges.refused("put(1): costs more", d -> d.put(1), NO);
        edges.refused("put(2): takes more", d -> d.put(2), NO);
        edges.refused("put(3): costs and takes more", d -> d.put(3), NO);
        edges.refused("put(5): there is none", d -> d.put(5), BottomDrawer.BAD);
        edges.due("put(4): neither", d -> d.put(4), 0);
    }

    /** "One that is in it is TAKEN OUT (they get nothing)"; "NO: it is not in". */
    private static void out() {
        Edges empty = Edges.ofText(CHECK, "r20,20;t0,20,20;t0,1,0;l0,0,0;");
        empty.refused("out(0), never in", d -> d.out(0), NO);
        Edges one = new Edges(CHECK, d -> {
            Edges.lay(d, "r20,20;t0,20,20;t0,1,0;l0,0,0;");
            d.put(0);
        });
        one.due("out(0): all ROOM is left", d -> d.out(0), 20);
        one.refused("out(1), not in", d -> d.out(1), NO);
        Edges gone = new Edges(CHECK, d -> {
            Edges.lay(d, "r20,20;t0,20,20;t0,1,0;l0,0,0;");
            d.put(0);
            d.out(0);
        });
        gone.refused("out(0), TAKEN OUT", d -> d.out(0), NO);
        gone.due("COINS, TAKEN OUT", d -> d.count(6), 0);
        // A LINEN one that went when a LIFE was LIVED is not in either.
        Edges linen = new Edges(CHECK, d -> {
            Edges.lay(d, "r20,20;t2,1,0;l0,0,0;n0,0;");
            d.put(0);
            d.live(0);
        });
        linen.refused("out(0), LIVED", d -> d.out(0), NO);
        linen.due("put(0), LIVED", d -> d.put(0), 19);
    }

    /** "what is left of ROOM", also where all in it take more than that. */
    private static void outOfFolding() {
        for (int one = 1; one <= 20; one++) {
            int room = one / 2 + 10 + 20;
            BottomDrawer d = Check.laid("r" + room + ",0;t3," + one + ",0;t3,20,0;t0,20,0;l0,0,0;");
            d.put(0);
            d.put(1);
            CHECK.due("put(2), into the last of ROOM", d.put(2), 0);
            CHECK.due("out(1) beside FOLDING " + one, d.out(1), room - one - 20);
            CHECK.due("room behind it", d.room(), one + 20);
        }
        BottomDrawer three = Check.laid("r99,0;t3,9,0;t3,9,0;t3,9,0;l0,0,0;");
        three.put(0);
        three.put(1);
        three.put(2);
        CHECK.due("out of three FOLDING", three.out(1), 99 - 4 - 4);
        CHECK.due("out of two FOLDING", three.out(0), 99 - 9);
        CHECK.due("out of one FOLDING", three.out(2), 99);
    }

    /** "One that CAN BE and was not LIVED is LIVED"; "NO: .. it was". */
    private static void liveOnce() {
        Edges lived = new Edges(CHECK, d -> {
            Edges.lay(d, "t0,1,0;l0,0,0;l0,0,0;");
            d.live(0);
        });
        lived.due("life(0, 4): CAN BE", d -> d.life(0, 4), 1);
        lived.refused("live(0), LIVED", d -> d.live(0), NO);
        lived.due("live(1), not LIVED", d -> d.live(1), 0);
        lived.due("live(0), UNDONE", d -> {
            d.undo();
            return d.live(0);
        }, 0);
        lived.due("life(0, 5), UNDONE", d -> {
            d.undo();
            return d.life(0, 5);
        }, 0);
    }

    /** "NO: it can not be". */
    private static void liveWhatCanNotBe() {
        Edges edges = new Edges(CHECK, d -> {
            Edges.lay(d, "t0,1,0;t0,1,0;t1,1,0;l0,0,0;l0,0,0;l0,0,0;n0,0;n0,1;n1,0;n2,2;n2,1;");
            d.put(2);
        });
        edges.refused("live(0): two are not in", d -> d.live(0), NO);
        edges.due("live(1): FLANNEL for the one", d -> d.live(1), 0);
        edges.refused("live(2): the FLANNEL one is NEEDED itself", d -> d.live(2), NO);
    }

    /** "all LINEN ones that it NEEDS are not in the DRAWER any more"; "what is gone, as bits". */
    private static void liveLinen() {
        String eight = Check.times("t2,1,0;", 8) + "l0,0,0;l0,0,0;";
        String all = "n0,0;n0,1;n0,2;n0,3;n0,4;n0,5;n0,6;n0,7;";
        BottomDrawer d = Check.laid(eight + all);
        for (int t = 0; t < 8; t++) {
            d.put(t);
        }
        CHECK.due("live(1): none of eight", d.live(1), 0);
        CHECK.due("THINGS behind it", d.count(3), 8);
        CHECK.due("live(0): all eight", d.live(0), 255);
        CHECK.due("THINGS behind all", d.count(3), 0);
        // The one that is not in, for which FLANNEL stands, is not gone; nor is the FLANNEL.
        BottomDrawer f = Check.laid("t2,1,0;t2,1,0;t1,1,0;t0,1,0;t3,1,0;l0,0,0;n0,0;n0,1;n0,3;n0,4;");
        f.put(1);
        f.put(2);
        f.put(3);
        f.put(4);
        CHECK.due("live(0): one LINEN of two", f.live(0), 2);
        CHECK.due("FLANNEL, PLAIN and FOLDING stay", f.count(3), 3);
        // Gone by one LIFE it is not there for the next.
        BottomDrawer next = Check.laid("t2,1,0;l0,0,0;l0,0,0;n0,0;n1,0;");
        next.put(0);
        CHECK.due("live(1)", next.live(1), 1);
        CHECK.due("live(0), its LINEN gone", next.live(0), NO);
        next.put(0);
        CHECK.due("live(0), PUT BY again", next.live(0), 1);
    }

    /** "was not LIVED": each of as many LIVES as there can be, once; they CAN BE all the same. */
    private static void liveSix() {
        BottomDrawer d = Check.laid("t0,1,0;" + Check.times("l0,0,0;", 6));
        for (int l = 5; l >= 0; l--) {
            CHECK.due("live(" + l + ")", d.live(l), 0);
            CHECK.due("LIVED", d.count(5), 6 - l);
        }
        for (int l = 0; l <= 5; l++) {
            CHECK.due("live(" + l + ") again", d.live(l), NO);
        }
        CHECK.due("LIVED, all", d.count(5), 6);
        CHECK.due("CAN BE, all", d.count(4), 6);
    }

    /** "n YEARS (1 to 20) go by: COINS. BAD." */
    private static void yearsThatGoBy() {
        new Edges(CHECK, d -> { }).only("pass", (d, n) -> d.pass(n), 1, 20);
        new Edges(CHECK, Edges::busy).only("pass, busy", (d, n) -> d.pass(n), 1, 20);
        for (int n = 1; n <= 20; n++) {
            BottomDrawer d = new BottomDrawer();
            CHECK.due("pass(" + n + ")", d.pass(n), 6 + 6 * n);
            CHECK.due("YEARS gone by", d.count(7), n);
            CHECK.due("COINS", d.count(6), 6 + 6 * n);
        }
        BottomDrawer none = Check.laid("r20,0;t0,1,0;l0,0,0;");
        CHECK.due("pass(20) of 0 a YEAR", none.pass(20), 0);
        CHECK.due("YEARS gone by of 0", none.count(7), 20);
    }

    /** "In a YEAR the AUNTS have A COINS more (999 at most)". */
    private static void coins999AtMost() {
        for (int more = 0; more <= 20; more++) {
            BottomDrawer d = Check.laid("r20," + more + ";t0,1,0;l0,0,0;");
            int coins = more;
            for (int i = 1; i <= 60; i++) {
                int n = i <= 48 ? 20 : 1;
                coins = Math.min(999, coins + n * more);
                CHECK.due("pass(" + n + ") no. " + i + " of " + more, d.pass(n), coins);
            }
            CHECK.due("COINS of " + more, d.count(6), coins);
            CHECK.due("YEARS go on", d.count(7), 48 * 20 + 12);
        }
        // 998, 999 and no more, by single COINS.
        BottomDrawer d = Check.laid("r20,1;t0,1,0;l0,0,0;");
        for (int i = 0; i < 49; i++) {
            d.pass(20);
        }
        CHECK.due("pass(17) to 998", d.pass(17), 998);
        CHECK.due("pass(1) to 999", d.pass(1), 999);
        CHECK.due("pass(1) at 999", d.pass(1), 999);
        CHECK.due("pass(20) at 999", d.pass(20), 999);
        CHECK.due("undo at 999", d.undo(), 7);
        CHECK.due("COINS, UNDONE", d.count(6), 999);
        d.undo();
        d.undo();
        CHECK.due("COINS, UNDONE to 998", d.count(6), 998);
    }

    /** Of 999 they pay, and come to 999 again. */
    private static void coins999Paid() {
        BottomDrawer d = Check.laid("r20,20;t0,1,20;t0,1,1;l0,0,0;");
        for (int i = 0; i < 4; i++) {
            d.pass(20);
        }
        CHECK.due("COINS", d.count(6), 999);
        d.put(0);
        CHECK.due("COINS, 20 paid", d.count(6), 979);
        CHECK.due("pass(1) to 999", d.pass(1), 999);
        d.put(1);
        CHECK.due("COINS, 1 paid", d.count(6), 998);
        CHECK.due("pass(1), 19 too many", d.pass(1), 999);
    }

    /** "UNDONE: how many more can be. NO." */
    private static void undoNothing() {
        Edges fresh = Edges.ofText(CHECK, "t0,1,0;l0,0,0;");
        fresh.refused("undo of nothing", d -> d.undo(), NO);
        Edges one = new Edges(CHECK, d -> d.pass(1));
        one.due("undo of one", d -> d.undo(), 0);
        Edges undone = new Edges(CHECK, d -> {
            d.pass(1);
            d.undo();
        });
        undone.refused("undo, all UNDONE", d -> d.undo(), NO);
        // Behind back() and lay() nothing can be.
        Edges back = new Edges(CHECK, d -> {
            Edges.busy(d);
            d.back();
        });
        back.refused("undo behind back", d -> d.undo(), NO);
        Edges laid = new Edges(CHECK, d -> {
            Edges.busy(d);
            Edges.lay(d, "t0,1,0;l0,0,0;");
        });
        laid.refused("undo behind lay", d -> d.undo(), NO);
    }

    /** "UNDONE are the latest of these (.. the last 8 can be)". */
    private static void undoTheLast8() {
        for (int many = 1; many <= 20; many++) {
            BottomDrawer d = new BottomDrawer();
            for (int i = 1; i <= many; i++) {
                d.pass(1);
                CHECK.due("can be UNDONE of " + i, d.count(9), Math.min(i, 8));
            }
            int can = Math.min(many, 8);
            for (int i = 1; i <= can; i++) {
                CHECK.due("undo no. " + i + " of " + many, d.undo(), can - i);
                CHECK.due("YEARS behind undo no. " + i, d.count(7), many - i);
                CHECK.due("can be UNDONE behind undo no. " + i, d.count(9), can - i);
            }
            CHECK.due("undo no. " + (can + 1) + " of " + many, d.undo(), NO);
            CHECK.due("YEARS stay", d.count(7), many - can);
        }
        // Of each kind: the ninth last stays.
        busyUndone();
    }

    private static void busyUndone() {
        for (int many = 0; many <= 8; many++) {
            BottomDrawer d = new BottomDrawer();
            Edges.busy(d);
            for (int i = 1; i <= many; i++) {
                CHECK.due("undo no. " + i + ", busy", d.undo(), 8 - i);
            }
            // busy: put(0), then of 8: pass(2), put(2), put(1), live(0), pass(20), put(3), put(5), out(0).
            int[] drawer = {42, 43, 11, 3, 3, 7, 5, 1, 1};
            int[] coins = {123, 123, 124, 129, 9, 9, 11, 14, 2};
            int[] years = {22, 22, 22, 22, 2, 2, 2, 2, 0};
            int in = 0;
            for (int t = 0; t <= 5; t++) {
                in |= d.thing(t, 3) << t;
            }
            CHECK.due("in it, " + many + " UNDONE", in, drawer[many]);
            CHECK.due("COINS, " + many + " UNDONE", d.count(6), coins[many]);
            CHECK.due("YEARS, " + many + " UNDONE", d.count(7), years[many]);
            CHECK.due("LIVED, " + many + " UNDONE", d.count(5), many <= 4 ? 1 : 0);
            if (many == 8) {
                CHECK.due("undo no. 9, busy", d.undo(), NO);
            }
        }
    }

    /** "(all that go by at one time are one; ..)". */
    private static void undoWhatGoesByAtOneTime() {
        BottomDrawer d = new BottomDrawer();
        d.pass(1);
        d.pass(20);
        CHECK.due("can be UNDONE", d.count(9), 2);
        CHECK.due("undo of 20 YEARS", d.undo(), 1);
        CHECK.due("YEARS", d.count(7), 1);
        CHECK.due("undo of 1 YEAR", d.undo(), 0);
        CHECK.due("YEARS, none", d.count(7), 0);
        CHECK.due("COINS, none", d.count(6), 6);
    }

    /** "nothing changes then": what is refused can't be UNDONE. */
    private static void undoNoRefusedCall() {
        Edges edges = new Edges(CHECK, d -> d.put(0));
        edges.refused("put(0), in", d -> d.put(0), NO);
        edges.refused("put(4), costs more", d -> d.put(4), NO);
        edges.refused("out(1), not in", d -> d.out(1), NO);
        edges.refused("live(0), can not be", d -> d.live(0), NO);
        edges.refused("pass(0)", d -> d.pass(0), BottomDrawer.BAD);
        edges.refused("pass(21)", d -> d.pass(21), BottomDrawer.BAD);
        edges.refused("put(6)", d -> d.put(6), BottomDrawer.BAD);
        edges.refused("out(-1)", d -> d.out(-1), BottomDrawer.BAD);
        edges.refused("live(4)", d -> d.live(4), BottomDrawer.BAD);
    }

    /** ".. of these": what is SEEN, KEPT, written or asked is none of them. */
    private static void undoNoOtherCall() {
        BottomDrawer d = new BottomDrawer();
        d.pass(1);
        d.see(0, true);
        d.keep();
        d.write('t');
        d.wipe();
        d.fault();
        d.lay();
        d.meant();
        d.forget();
        d.year(0, 40, 0);
        d.best(20, 0);
        d.row(0);
        CHECK.due("can be UNDONE", d.count(9), 1);
        CHECK.due("undo", d.undo(), 0);
        CHECK.due("YEARS, UNDONE", d.count(7), 0);
    }

    /** Behind some that were UNDONE the next are the latest; 8 at most again. */
    private static void undoBehindUndo() {
        BottomDrawer d = new BottomDrawer();
        for (int i = 0; i < 10; i++) {
            d.pass(1);
        }
        d.undo();
        d.undo();
        d.undo();
        CHECK.due("can be UNDONE, 3 of 8 UNDONE", d.count(9), 5);
        d.pass(20);
        d.pass(20);
        d.pass(20);
        CHECK.due("can be UNDONE, 3 more", d.count(9), 8);
        d.pass(20);
        CHECK.due("can be UNDONE, 4 more", d.count(9), 8);
        int[] years = {67, 47, 27, 7, 6, 5, 4, 3};
        for (int i = 0; i < 8; i++) {
            CHECK.due("undo no. " + i, d.undo(), 7 - i);
            CHECK.due("YEARS behind undo no. " + i, d.count(7), years[i]);
        }
        CHECK.due("undo no. 8", d.undo(), NO);
    }

    /** What is SEEN, KEPT and THE TEXT stay by undo. */
    private static void undoLeaves() {
        BottomDrawer d = new BottomDrawer();
        Edges.busy(d);
        Check.write(d, "r9,9;");
        int meant = d.meant();
        for (int i = 0; i < 8; i++) {
            d.undo();
        }
        CHECK.due("SEEN, all UNDONE", d.count(8), 8);
        CHECK.due("MEANT, all UNDONE", d.meant(), meant);
        CHECK.due("KEPT, all UNDONE", d.count(10), 2);
        CHECK.due("letters of THE TEXT, all UNDONE", d.count(11), 5);
        CHECK.due("back, all UNDONE", d.back(), 1);
        CHECK.due("YEARS, as KEPT", d.count(7), 22);
        CHECK.due("COINS, as KEPT", d.count(6), 124);
    }
}
