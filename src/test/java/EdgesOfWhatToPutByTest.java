/**
 * BEST, COVER, SERVES, ROW, BARGAIN and TALK at their edges: promises 15 to 20. Above each test stand the
 * document's words that it holds the class to.
 */
public final class EdgesOfWhatToPutByTest {
    private static final Check CHECK = new Check("EdgesOfWhatToPutByTest");
    private static final int NONE = BottomDrawer.NONE;
    /** 0, worth most to her and least to him, CAN BE by a THING alone. */
    private static final String SOME = "t0,1,0;l1,60,0;l1,9,1;l1,1,9;l1,5,5;n0,0;";

    public static void main(String[] args) {
        bestNumbers();
        bestByRoom();
        bestByCoins();
        bestByCoinsTogether();
        bestOfWhatIsIn();
        bestWhereMoreIsInThanItsRoom();
        bestOfSeveralAlike();
        bestOfNoWorth();
        coverNumbers();
        coverOfNone();
        coverOfAll();
        coverWhateverTheyTakeAndCost();
        coverOfSeveralAlike();
        servesNone();
        servesTheOne();
        servesOfSeveralAlike();
        rowNumbers();
        rowOfNone();
        rowOfSix();
        rowOfSeveralAlike();
        rowNothingPutBy();
        bargainOfNone();
        bargainAlike();
        bargainAtMost();
        talkNumbers();
        talkOfNone();
        talkOfOne();
        talkOfTwo();
        talkAlike();
        talkAskedFirst();
        talkOfSome();
        CHECK.end();
    }

    private static void best(BottomDrawer d, int n, int set, int above, int below) {
        CHECK.due("best(" + n + ", 0)", d.best(n, 0), set);
        CHECK.due("best(" + n + ", 1)", d.best(n, 1), above);
        CHECK.due("best(" + n + ", 2)", d.best(n, 2), below);
    }

    /** "behind n (0 to 20) YEARS"; "the set (what = 0; bits), WORTH above (1), below (2). BAD." */
    private static void bestNumbers() {
        Edges fresh = new Edges(CHECK, d -> { });
        Edges busy = new Edges(CHECK, Edges::busy);
        for (int what = 0; what <= 2; what++) {
            int of = what;
            fresh.only("best(, " + what + ")", (d, n) -> d.best(n, of), 0, 20);
            busy.only("best(, " + what + "), busy", (d, n) -> d.best(n, of), 0, 20);
        }
        fresh.only("best(0, )", (d, what) -> d.best(0, what), 0, 2);
        busy.only("best(20, ), busy", (d, what) -> d.best(20, what), 0, 2);
        busy.unchanged("best(20, 0)", d -> d.best(20, 0));
    }

    /** "sets of THINGS that take no more than the ROOM of the DRAWER". */
    private static void bestByRoom() {
        for (int size = 1; size <= 20; size++) {
            for (int room = 1; room <= 21; room++) {
                BottomDrawer d = Check.laid("r" + room + ",0;t0," + size + ",0;l1,7,0;n0,0;");
                boolean can = size <= room;
                best(d, 0, can ? 1 : 0, can ? 7 : 0, 1);
            }
        }
        String two = "t3,9,0;t3,8,0;l1,6,0;n0,0;n0,1;";
        best(Check.laid("r8,0;" + two), 0, 3, 6, 1);
        best(Check.laid("r7,0;" + two), 0, 0, 0, 1);
        String all = Check.times("t0,12,0;", 8) + "l1,6,0;n0,0;n0,1;n0,2;n0,3;n0,4;n0,5;n0,6;n0,7;";
        best(Check.laid("r96,0;" + all), 0, 255, 6, 1);
        best(Check.laid("r95,0;" + all), 0, 0, 0, 1);
    }

    /** "cost no more together than the AUNTS will have behind n (0 to 20) YEARS": at the last COIN and the last YEAR. */
    private static void bestByCoins() {
        for (int cost = 0; cost <= 20; cost++) {
            BottomDrawer d = Check.laid("r20,1;t0,1," + cost + ";l1,7,0;n0,0;");
            for (int n = 0; n <= 20; n++) {
                CHECK.due("best(" + n + ", 0) of cost " + cost, d.best(n, 0), cost <= 1 + n ? 1 : 0);
                CHECK.due("best(" + n + ", 1) of cost " + cost, d.best(n, 1), cost <= 1 + n ? 7 : 0);
            }
        }
        BottomDrawer none = Check.laid("r20,0;t0,1,1;t0,1,0;l1,7,0;l1,5,0;n0,0;n1,1;");
        best(none, 20, 2, 5, 2);
        BottomDrawer rich = Check.laid("r99,20;" + Check.times("t0,1,20;", 8)
                + "l1,6,0;n0,0;n0,1;n0,2;n0,3;n0,4;n0,5;n0,6;n0,7;");
        best(rich, 6, 0, 0, 1);
        best(rich, 7, 255, 6, 1);
        for (int i = 0; i < 3; i++) {
            rich.pass(20);
        }
        best(rich, 20, 255, 6, 1);
    }

    /** "cost no more together": each alone would be paid, both only behind 20 YEARS. */
    private static void bestByCoinsTogether() {
        BottomDrawer d = Check.laid("r20,1;t0,1,20;t0,1,1;t0,1,1;l1,7,0;n0,0;n0,1;");
        best(d, 19, 0, 0, 1);
        best(d, 20, 3, 7, 1);
        // What was paid for one is not there for others.
        d.put(2);
        best(d, 20, 0, 0, 1);
        d.pass(1);
        best(d, 20, 3, 7, 1);
    }

    /** "those that are not in it now": what is in costs nothing, and need not stay. */
    private static void bestOfWhatIsIn() {
        BottomDrawer d = Check.laid("r20,20;t0,20,20;t0,20,0;t0,1,1;l1,7,0;l2,4,0;n0,0;n1,1;");
        d.put(0);
        CHECK.due("COINS", d.count(6), 0);
        // 8 by THING 1, which costs nothing, is more than 7 by the one that is in.
        best(d, 0, 2, 8, 3);
        BottomDrawer in = Check.laid("r20,20;t0,20,20;t0,19,1;l1,7,0;l2,4,0;n0,0;n1,1;");
        in.put(0);
        best(in, 0, 1, 7, 3);
        in.out(0);
        best(in, 0, 0, 0, 1);
    }

    /** Where all in it take more than its ROOM, they are no set that can be. */
    private static void bestWhereMoreIsInThanItsRoom() {
        BottomDrawer d = Check.laid("r10,20;t3,10,0;t3,9,20;t0,1,0;l1,5,0;l1,4,0;n0,0;n1,2;");
        d.put(0);
        d.put(1);
        d.put(2);
        CHECK.due("out(1)", d.out(1), -1);
        best(d, 0, 1, 5, 2);
        best(d, 1, 7, 9, 2);
    }

    /** "of several that of fewest THINGS, then the lowest as bits". */
    private static void bestOfSeveralAlike() {
        String lives = "l1,5,0;l1,5,0;l1,10,0;l1,10,0;n0,0;n1,1;n2,2;n3,3;";
        best(Check.laid("r4,5;t0,2,0;t0,2,0;t0,4,0;t0,4,0;" + lives), 0, 4, 5, 2);
        best(Check.laid("r4,5;t0,4,0;t0,4,0;t0,2,0;t0,2,0;l1,10,0;l1,10,0;l1,5,0;l1,5,0;n0,0;n1,1;n2,2;n3,3;"),
                0, 1, 5, 2);
        // The fewest are higher as bits.
        best(Check.laid("r4,5;t0,2,0;t0,2,0;t0,4,0;l1,5,0;l1,5,0;l1,10,0;n0,0;n1,1;n2,2;"), 0, 4, 10, 3);
        // As few: the lowest, in it or not.
        BottomDrawer two = Check.laid("r4,5;t0,2,1;t0,2,1;t0,2,1;l1,5,0;l1,5,0;l1,5,0;n0,0;n1,1;n2,2;");
        best(two, 20, 3, 10, 3);
        two.put(2);
        two.put(1);
        best(two, 20, 3, 10, 3);
        BottomDrawer eight = Check.laid("r1,20;" + Check.times("t0,1,0;", 8) + "l1,5,0;l1,5,0;n0,7;n1,6;");
        best(eight, 0, 64, 5, 2);
        // What adds nothing stays out of it.
        best(Check.laid("r99,20;t0,1,0;t1,1,0;t0,1,0;l1,5,0;n0,2;"), 0, 2, 5, 1);
        best(Check.laid("r99,20;t0,1,0;t0,1,0;t0,1,0;l1,5,0;n0,2;"), 0, 4, 5, 1);
    }

    /** "of greatest WORTH, of several that of fewest THINGS": where nothing is worth more, no THING. */
    private static void bestOfNoWorth() {
        // P of all together 0; V of all 0; too large all; too dear all; no NEEDS at all.
        best(Check.laid("r99,20;t0,1,0;l0,60,60;n0,0;"), 20, 0, 0, 1);
        best(Check.laid("r99,20;t0,1,0;l9,0,60;n0,0;"), 20, 0, 0, 1);
        best(Check.laid("r1,20;t0,2,0;l9,60,60;n0,0;"), 20, 0, 0, 1);
        best(Check.laid("r99,0;t0,1,20;l9,60,60;n0,0;"), 20, 0, 0, 1);
        best(Check.laid("r99,20;t0,1,0;l9,60,60;"), 20, 0, 60, 1);
    }

    private static void cover(String text, int lives, int set, int many, int room) {
        BottomDrawer d = Check.laid(text);
        CHECK.due("cover(" + lives + ", 0) of " + text, d.cover(lives, 0), set);
        CHECK.due("cover(" + lives + ", 1) of " + text, d.cover(lives, 1), many);
        CHECK.due("cover(" + lives + ", 2) of " + text, d.cover(lives, 2), room);
    }

    /** "which (what = 0; bits), how many (1), ROOM (2). BAD." (Sets of LIVES: EdgesOfThingsAndLivesTest.) */
    private static void coverNumbers() {
        Edges fresh = new Edges(CHECK, d -> { });
        fresh.only("cover(0, )", (d, what) -> d.cover(0, what), 0, 2);
        fresh.only("cover(15, )", (d, what) -> d.cover(15, what), 0, 2);
        fresh.only("cover(, 0)", (d, set) -> d.cover(set, 0), 0, 15);
        new Edges(CHECK, Edges::busy).only("cover(, 2), busy", (d, set) -> d.cover(set, 2), 0, 15);
    }

    /** "COVER for a set of LIVES": of the empty set, and of LIVES that NEED none, no THING. */
    private static void coverOfNone() {
        cover("t0,1,0;l1,1,1;n0,0;", 0, 0, 0, 0);
        cover("t0,1,0;l1,1,1;", 1, 0, 0, 0);
        cover(Edges.FULL_TEXT, 0, 0, 0, 0);
    }

    /** "by which all of these CAN BE": of one LIFE, of all six, of all eight THINGS. */
    private static void coverOfAll() {
        cover(Edges.FULL_TEXT, 63, 255, 8, 80);
        cover(Edges.FULL_TEXT, 1, 3, 2, 20);
        cover(Edges.FULL_TEXT, 8, 192, 2, 20);
        cover(Edges.FULL_TEXT, 32, 208, 3, 30);
        cover("t0,7,0;l1,1,1;n0,0;", 1, 1, 1, 7);
        String all = Check.times("t0,20,20;", 8) + "l1,1,1;n0,0;n0,1;n0,2;n0,3;n0,4;n0,5;n0,6;n0,7;";
        cover(all, 1, 255, 8, 160);
        // Where a FLANNEL one is NEEDED by no one, but stands in: one fewer.
        cover(Check.times("t0,20,20;", 7) + "t1,20,20;l1,1,1;n0,0;n0,1;n0,2;n0,3;n0,4;n0,5;n0,6;", 1, 127, 7, 140);
        cover("t0,2,0;t0,3,0;t1,4,0;l1,1,1;l1,1,1;n0,0;n1,1;", 3, 4, 1, 4);
    }

    /** "whatever they take and cost", and whatever is in or LIVED. */
    private static void coverWhateverTheyTakeAndCost() {
        String text = "r1,0;t0,20,20;t0,20,20;l1,1,1;n0,0;n0,1;";
        cover(text, 1, 3, 2, 40);
        BottomDrawer d = Check.laid("r99,20;t0,1,0;t0,2,0;l1,1,1;l1,1,1;n0,0;n1,1;");
        d.put(0);
        d.live(0);
        CHECK.due("cover(1, 0) of what is LIVED", d.cover(1, 0), 1);
        CHECK.due("cover(2, 0) of what is not in", d.cover(2, 0), 2);
        CHECK.due("cover(3, 2)", d.cover(3, 2), 3);
    }

    /** "that of fewest, of several the lowest as bits". */
    private static void coverOfSeveralAlike() {
        cover("t1,9,0;t0,8,0;t1,7,0;l1,1,1;n0,1;", 1, 1, 1, 9);
        cover("t0,8,0;t1,9,0;t1,7,0;l1,1,1;n0,0;", 1, 1, 1, 8);
        cover("t1,1,0;t1,2,0;t0,3,0;t0,4,0;l1,1,1;n0,2;n0,3;", 1, 5, 2, 4);
        cover("t0,3,0;t0,4,0;t1,1,0;t1,2,0;l1,1,1;n0,0;n0,1;", 1, 3, 2, 7);
        // Fewer, though higher as bits.
        cover("t0,1,0;t0,1,0;t1,1,0;l1,1,1;l1,1,1;n0,0;n1,1;", 3, 4, 1, 1);
    }

    /** "SERVES. NONE." */
    private static void servesNone() {
        Edges empty = Edges.ofText(CHECK, "t0,1,0;l1,60,60;n0,0;");
        empty.refused("serves, empty", d -> d.serves(), NONE);
        Edges out = new Edges(CHECK, d -> {
            d.put(0);
            d.out(0);
        });
        out.refused("serves, TAKEN OUT", d -> d.serves(), NONE);
        Edges linen = new Edges(CHECK, d -> {
            Edges.lay(d, "t2,1,0;l1,60,60;n0,0;");
            d.put(0);
            d.live(0);
        });
        linen.refused("serves, LINEN gone", d -> d.serves(), NONE);
    }

    /** "the THING in the DRAWER": where there is but one it is that one, of no WORTH too. */
    private static void servesTheOne() {
        for (int t = 0; t <= 7; t++) {
            BottomDrawer d = Check.laid(Check.times("t0,1,0;", 8) + "l1,5,5;n0,0;");
            d.put(t);
            CHECK.due("serves of the one", d.serves(), t);
        }
    }

    /** "the THING in the DRAWER without which what is in it would be of least WORTH, of several the lowest". */
    private static void servesOfSeveralAlike() {
        BottomDrawer d = Check.laid("r99,20;" + Check.times("t0,1,0;", 8) + "l1,9,0;l2,4,0;l0,60,0;n0,7;n1,6;n2,0;");
        for (int t = 7; t >= 0; t--) {
            d.put(t);
            CHECK.due("serves from " + t, d.serves(), 7);
        }
        d.out(7);
        CHECK.due("serves, without the first of all", d.serves(), 6);
        d.out(6);
        CHECK.due("serves, all alike", d.serves(), 0);
        d.out(0);
        CHECK.due("serves, all alike but the lowest", d.serves(), 1);
        // P of all together 0: all alike, 0.
        BottomDrawer none = Check.laid("r99,20;t0,1,0;t0,1,0;t0,1,0;l0,60,60;n0,2;");
        none.put(2);
        none.put(1);
        CHECK.due("serves, P 0", none.serves(), 1);
        // 9 is as much as 9, whichever LIFE it is of.
        BottomDrawer even = Check.laid("r99,20;t0,1,0;t0,1,0;l9,1,0;l1,9,0;n0,1;n1,0;");
        even.put(1);
        even.put(0);
        CHECK.due("serves, as much", even.serves(), 0);
        BottomDrawer one = Check.laid("r99,20;t0,1,0;t0,1,0;l9,1,0;l1,8,0;n0,1;n1,0;");
        one.put(1);
        one.put(0);
        CHECK.due("serves, one more", one.serves(), 1);
    }

    private static void row(String standing, BottomDrawer d, int... lives) {
        CHECK.due("row(0), " + standing, d.row(0), lives.length);
        for (int k = 1; k <= 6; k++) {
            CHECK.due("row(" + k + "), " + standing, d.row(k), k <= lives.length ? lives[k - 1] : NONE);
        }
    }

    /** "how many (k = 0), the k-th (1 to 6; NONE: there are not so many). BAD." */
    private static void rowNumbers() {
        new Edges(CHECK, d -> { }).only("row", (d, k) -> d.row(k), 0, 6);
        new Edges(CHECK, Edges::busy).only("row, busy", (d, k) -> d.row(k), 0, 6);
        // 1 to 6 are told, however many LIVES there are.
        Edges one = Edges.ofText(CHECK, "t0,1,0;l1,1,1;");
        one.only("row of one LIFE", (d, k) -> d.row(k), 0, 6);
        for (int k = 2; k <= 6; k++) {
            int of = k;
            one.refused("row(" + k + ") of one LIFE", d -> d.row(of), NONE);
        }
        Edges.ofText(CHECK, "t0,1,0;" + Check.times("l1,1,1;", 6)).only("row of six", (d, k) -> d.row(k), 0, 6);
    }

    /** "LIVES that can be LIVED now": where none can, how many is 0, and each k-th NONE. */
    private static void rowOfNone() {
        BottomDrawer d = Check.laid("t0,1,0;l1,1,1;n0,0;");
        row("none CAN BE", d);
        d.put(0);
        row("one CAN BE", d, 0);
        d.live(0);
        row("all LIVED", d);
        CHECK.due("CAN BE, LIVED", d.count(4), 1);
    }

    /** "how many (k = 0), the k-th (1 to 6 ..)": as many as can be, and one fewer each time. */
    private static void rowOfSix() {
        BottomDrawer d = Check.laid("t0,1,0;" + Check.times("l0,0,0;", 6));
        row("all six", d, 0, 1, 2, 3, 4, 5);
        d.live(0);
        row("five", d, 1, 2, 3, 4, 5);
        d.live(5);
        row("four", d, 1, 2, 3, 4);
        // Each but the first and the last NEEDS two LINEN ones, and takes them from its neighbours.
        BottomDrawer two = Check.laid(Check.times("t2,1,0;", 5) + Check.times("l0,0,0;", 6)
                + "n0,0;n1,0;n1,1;n2,1;n2,2;n3,2;n3,3;n4,3;n4,4;n5,4;");
        for (int t = 0; t < 5; t++) {
            two.put(t);
        }
        row("every other one", two, 0, 2, 4);
    }

    /** "that of most, of several the first (by the first LIFE, then the second, ..)". */
    private static void rowOfSeveralAlike() {
        // LIFE 0 takes what 1 and 2 NEED each one of: 1, 2 is longer though 0 is lower.
        BottomDrawer longer = Check.laid("t2,1,0;t2,1,0;l1,1,1;l1,1,1;l1,1,1;n0,0;n0,1;n1,0;n2,1;");
        longer.put(0);
        longer.put(1);
        row("longer", longer, 1, 2);
        // As long: the lower one comes first.
        BottomDrawer alike = Check.laid("t2,1,0;l1,1,1;l1,1,1;l1,1,1;n0,0;n1,0;n2,0;");
        alike.put(0);
        row("as long", alike, 0);
        alike.live(0);
        row("all gone", alike);
        // 2 takes nothing: 0 or 1 with it, 0 first of all.
        BottomDrawer second = Check.laid("t2,1,0;t0,1,0;l1,1,1;l1,1,1;l1,1,1;n0,0;n0,1;n1,0;n2,1;");
        second.put(0);
        second.put(1);
        row("as long, by the first", second, 0, 2);
        // 0 is first only if 1 comes ahead of it: 1 NEEDS the LINEN that 0 takes, 0 NEEDS none that 1 takes.
        BottomDrawer order = Check.laid("t2,1,0;t1,1,0;t0,1,0;l1,1,1;l1,1,1;n0,0;n1,0;n1,1;");
        order.put(0);
        order.put(1);
        row("by order", order, 1, 0);
    }

    /** "nothing being PUT BY", and nothing changes. */
    private static void rowNothingPutBy() {
        Edges edges = new Edges(CHECK, d -> {
            Edges.lay(d, "r99,20;t2,1,0;t0,1,0;l1,1,1;l1,1,1;l1,1,1;n0,0;n1,0;n2,1;");
            d.put(0);
        });
        edges.due("row(0)", d -> d.row(0), 1);
        edges.due("row(1)", d -> d.row(1), 0);
        edges.unchanged("row(0)", d -> d.row(0));
        edges.unchanged("row(1)", d -> d.row(1));
    }

    private static void bargain(int want, String lives) {
        CHECK.due("bargain of " + lives, Check.laid("t0,1,0;" + lives).bargain(), want);
    }

    /** "BARGAIN, as bits": of none none, 0. */
    private static void bargainOfNone() {
        Edges none = Edges.ofText(CHECK, "t0,1,0;l1,60,60;l1,60,60;n0,0;n1,0;");
        none.refused("bargain, none CAN BE", d -> d.bargain(), 0);
        bargain(1, "l0,0,0;");
        bargain(2, "l1,60,60;l0,0,0;n0,0;");
    }

    /** "as much or more to each of both, and more to one of them": of those alike both stay. */
    private static void bargainAlike() {
        bargain(3, "l1,7,7;l1,7,7;");
        bargain(3, "l1,0,0;l1,0,0;");
        bargain(63, Check.times("l1,60,60;", 6));
        bargain(63, Check.times("l0,0,0;", 6));
        bargain(2, "l1,7,7;l1,7,8;");
        bargain(2, "l1,7,7;l1,8,7;");
        bargain(1, "l1,8,7;l1,7,7;");
        bargain(3, "l1,8,7;l1,7,8;");
        bargain(6, "l1,7,7;l1,7,8;l1,7,8;");
        // One less to one of both is less, however much more it is to the other.
        bargain(3, "l1,8,7;l1,7,9;");
        bargain(3, "l1,7,8;l1,9,7;");
        bargain(3, "l1,1,0;l1,0,60;");
        bargain(3, "l1,0,1;l1,60,0;");
    }

    /** "those (bits)": all six, one of six, and the first and last of six, at 0 and 60. */
    private static void bargainAtMost() {
        bargain(63, "l1,0,60;l1,1,59;l1,2,58;l1,58,2;l1,59,1;l1,60,0;");
        bargain(32, "l1,0,60;l1,1,59;l1,2,58;l1,58,2;l1,59,1;l1,60,60;");
        bargain(1, "l1,60,60;l1,60,59;l1,59,60;l1,0,0;l1,60,0;l1,0,60;");
        bargain(33, "l1,60,0;l1,59,0;l1,0,59;l1,0,0;l1,0,58;l1,0,60;");
    }

    private static void talk(int left, int first, String lives) {
        BottomDrawer d = Check.laid("t0,1,0;" + lives);
        CHECK.due("talk(0) of " + lives, d.talk(0), left);
        CHECK.due("talk(1) of " + lives, d.talk(1), first);
    }

    /** "which is left (what = 0), whom she strikes out first (1). NONE; BAD." */
    private static void talkNumbers() {
        new Edges(CHECK, Edges::busy).only("talk, busy", (d, what) -> d.talk(what), 0, 1);
        // BAD ahead of NONE.
        new Edges(CHECK, d -> { }).only("talk, none CAN BE", (d, what) -> d.talk(what), 0, 1);
        Edges.ofText(CHECK, "t0,1,0;l1,1,1;").only("talk, one CAN BE", (d, what) -> d.talk(what), 0, 1);
    }

    /** "(none CAN BE: none)". */
    private static void talkOfNone() {
        Edges none = new Edges(CHECK, d -> { });
        none.refused("talk(0), none CAN BE", d -> d.talk(0), NONE);
        none.refused("talk(1), none CAN BE", d -> d.talk(1), NONE);
    }

    /** "none (there is but one)". */
    private static void talkOfOne() {
        talk(0, NONE, "l1,1,1;");
        talk(0, NONE, "l0,0,0;");
        talk(1, NONE, "l1,60,60;l0,0,0;l1,60,60;n0,0;n2,0;");
        talk(5, NONE, Check.times("l1,60,60;", 5) + "l0,0,0;n0,0;n1,0;n2,0;n3,0;n4,0;");
        Edges one = Edges.ofText(CHECK, "t0,1,0;l1,1,1;");
        one.refused("talk(1), one CAN BE", d -> d.talk(1), NONE);
        one.unchanged("talk(0), one CAN BE", d -> d.talk(0));
    }

    /** "until one is left": of two she strikes out one, and he none. */
    private static void talkOfTwo() {
        talk(1, 0, "l1,1,9;l1,2,0;");
        talk(0, 1, "l1,2,0;l1,1,9;");
        talk(3, 1, "l1,60,60;l1,1,9;l1,60,60;l1,2,0;n0,0;n2,0;");
    }

    /** "of what is alike each strikes out the lowest". */
    private static void talkAlike() {
        talk(1, 0, Check.times("l1,9,9;", 2));
        talk(2, 0, Check.times("l1,9,9;", 3));
        talk(3, 0, Check.times("l1,9,9;", 4));
        talk(4, 0, Check.times("l1,9,9;", 5));
        talk(5, 0, Check.times("l1,9,9;", 6));
        talk(5, 0, Check.times("l0,0,0;", 6));
        // Alike to her: she strikes out 0, though he would leave her another then; alike to him likewise.
        talk(1, 0, "l1,9,1;l1,9,60;l1,9,2;");
        talk(2, 0, "l1,9,1;l1,9,2;l1,9,60;");
        talk(2, 0, "l1,1,9;l1,1,9;l1,2,9;");
    }

    /** Whom she strikes out first does not hang on which of both was asked ahead, nor on another standing's talk. */
    private static void talkAskedFirst() {
        BottomDrawer d = Check.laid(SOME);
        CHECK.due("talk(1) of three, asked first", d.talk(1), 2);
        CHECK.due("talk(0) of three", d.talk(0), 3);
        d.put(0);
        CHECK.due("talk(1) of four", d.talk(1), 2);
        CHECK.due("talk(0) of four", d.talk(0), 1);
        d.out(0);
        CHECK.due("talk(1) of three again", d.talk(1), 2);
        CHECK.due("talk(0) of three again", d.talk(0), 3);
    }

    /** Of those that CAN BE alone, LIVED or not. */
    private static void talkOfSome() {
        BottomDrawer d = Check.laid(SOME);
        // Without 1 or 3 he leaves her 2, worth 1; without 2 he leaves 3, worth 5.
        CHECK.due("talk(0), 0 can not be", d.talk(0), 3);
        CHECK.due("talk(1), 0 can not be", d.talk(1), 2);
        d.live(3);
        CHECK.due("talk(0), 3 LIVED", d.talk(0), 3);
        d.put(0);
        // He strikes out 0 in any case; without 2 or 3 she leaves 1 then, else he has 3 left.
        CHECK.due("talk(0), all four CAN BE", d.talk(0), 1);
        CHECK.due("talk(1), all four CAN BE", d.talk(1), 2);
    }
}
