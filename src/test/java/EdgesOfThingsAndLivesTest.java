/**
 * THINGS, LIVES and sets of them at their edges: promises 6 to 9, with what "Terms" tells of ROOM,
 * CAN BE and WORTH. Above each test stand the document's words that it holds the class to.
 */
public final class EdgesOfThingsAndLivesTest {
    private static final Check CHECK = new Check("EdgesOfThingsAndLivesTest");

    public static void main(String[] args) {
        thingsSuchAsThereAre();
        livesSuchAsThereAre();
        whatOfAThing();
        canBePutBy();
        livesThatNeedIt();
        whatOfALife();
        allThatItNeeds();
        allButOneAndFlannel();
        flannelThatItNeeds();
        roomTaken();
        oneHalfCut();
        setsSuchAsThereAre();
        worthOfNoChance();
        worthInLowestTerms();
        worthAtMost();
        CHECK.end();
    }

    private static String text(int things, int lives) {
        return Check.times("t0,1,0;", things) + Check.times("l1,2,3;", lives);
    }

    /** "BAD: a number is none that is told (THINGS, ..: such as there are)". */
    private static void thingsSuchAsThereAre() {
        for (int many = 1; many <= 8; many++) {
            Edges edges = Edges.ofText(CHECK, text(many, 1));
            edges.only("thing(, 0) of " + many, (d, t) -> d.thing(t, 0), 0, many - 1);
            edges.only("put() of " + many, (d, t) -> d.put(t), 0, many - 1);
            edges.only("out() of " + many, (d, t) -> d.out(t), 0, many - 1);
            edges.only("see() of " + many, (d, t) -> d.see(t, true), 0, many - 1);
            edges.only("see(, false) of " + many, (d, t) -> d.see(t, false), 0, many - 1);
        }
        // Such as there are is told by what is LAID, not by THE TEXT, nor by what was LAID once.
        BottomDrawer d = Check.laid(text(8, 6));
        d.wipe();
        Edges.lay(d, text(2, 3));
        CHECK.due("thing(1, 0), fewer", d.thing(1, 0), 0);
        CHECK.due("thing(2, 0), fewer", d.thing(2, 0), BottomDrawer.BAD);
        CHECK.due("life(2, 0), fewer", d.life(2, 0), 1);
        CHECK.due("life(3, 0), fewer", d.life(3, 0), BottomDrawer.BAD);
        d.wipe();
        Check.write(d, text(8, 6));
        d.fault();
        CHECK.due("thing(2, 0), written", d.thing(2, 0), BottomDrawer.BAD);
        CHECK.due("life(3, 0), written", d.life(3, 0), BottomDrawer.BAD);
    }

    /** "BAD: a number is none that is told (.. LIVES: such as there are)". */
    private static void livesSuchAsThereAre() {
        for (int many = 1; many <= 6; many++) {
            Edges edges = Edges.ofText(CHECK, text(1, many));
            edges.only("life(, 0) of " + many, (d, l) -> d.life(l, 0), 0, many - 1);
            edges.only("live() of " + many, (d, l) -> d.live(l), 0, many - 1);
            edges.only("moths(, 0, 0) of " + many, (d, l) -> d.moths(l, 0, 0), 0, many - 1);
        }
    }

    /** "KIND (what = 0), S (1), C (2), .. which LIVES NEED it (5; bits). BAD." */
    private static void whatOfAThing() {
        Edges fresh = new Edges(CHECK, d -> { });
        Edges busy = new Edges(CHECK, Edges::busy);
        for (int t = 0; t <= 5; t++) {
            int of = t;
            fresh.only("thing(" + t + ", )", (d, what) -> d.thing(of, what), 0, 5);
            busy.only("thing(" + t + ", ), busy", (d, what) -> d.thing(of, what), 0, 5);
        }
        // 1 if it is in: 0 ahead, behind TAKEN OUT and for a LINEN one that is gone.
        int[] in = {0, 1, 0, 1, 0, 1};
        for (int t = 0; t <= 5; t++) {
            int of = t;
            busy.due("thing(" + t + ", 3)", d -> d.thing(of, 3), in[t]);
            fresh.due("thing(" + t + ", 3), empty", d -> d.thing(of, 3), 0);
        }
    }

    /** "1 if it can be PUT BY now (4)": as put answers, at the last COIN and the last of ROOM. */
    private static void canBePutBy() {
        for (int more = -1; more <= 1; more++) {
            int can = more >= 0 ? 1 : 0;
            BottomDrawer d = Check.laid("r20," + (12 + more) + ";t0,1,12;l0,0,0;");
            CHECK.due("thing(0, 4) by COINS and " + more, d.thing(0, 4), can);
            BottomDrawer r = Check.laid("r" + (12 + more) + ",5;t0,12,0;l0,0,0;");
            CHECK.due("thing(0, 4) by ROOM and " + more, r.thing(0, 4), can);
            BottomDrawer both = Check.laid("r" + (12 + more) + ",5;t0,6,0;t0,6,0;l0,0,0;");
            both.put(0);
            CHECK.due("thing(1, 4) by ROOM left and " + more, both.thing(1, 4), can);
        }
        BottomDrawer in = Check.laid("r99,20;t0,1,0;l0,0,0;");
        in.put(0);
        CHECK.due("thing(0, 4), in", in.thing(0, 4), 0);
        in.out(0);
        CHECK.due("thing(0, 4), out again", in.thing(0, 4), 1);
    }

    /** "which LIVES NEED it (5; bits)": none, the last, all six; LIVED ones too. */
    private static void livesThatNeedIt() {
        BottomDrawer d = Check.laid(Check.times("t0,1,0;", 3) + Check.times("l1,1,1;", 6)
                + "n0,2;n1,2;n2,2;n3,2;n4,2;n5,2;n5,1;");
        CHECK.due("thing(0, 5): none", d.thing(0, 5), 0);
        CHECK.due("thing(1, 5): the last", d.thing(1, 5), 32);
        CHECK.due("thing(2, 5): all", d.thing(2, 5), 63);
        d.put(2);
        d.live(0);
        CHECK.due("thing(2, 5), LIVED", d.thing(2, 5), 63);
    }

    /** "P (what = 0), V (1), U (2), what it NEEDS (3; bits), .. 1 if it was LIVED (5). BAD." */
    private static void whatOfALife() {
        Edges fresh = new Edges(CHECK, d -> { });
        Edges busy = new Edges(CHECK, Edges::busy);
        int[] needs = {5, 25, 34, 56};
        for (int l = 0; l <= 3; l++) {
            int of = l;
            fresh.only("life(" + l + ", )", (d, what) -> d.life(of, what), 0, 5);
            busy.only("life(" + l + ", ), busy", (d, what) -> d.life(of, what), 0, 5);
            busy.due("life(" + l + ", 3)", d -> d.life(of, 3), needs[l]);
            busy.due("life(" + l + ", 5)", d -> d.life(of, 5), l == 0 ? 1 : 0);
            fresh.due("life(" + l + ", 5), empty", d -> d.life(of, 5), 0);
        }
        BottomDrawer all = Check.laid(Check.times("t0,1,0;", 8) + "l1,1,1;n0,0;n0,1;n0,2;n0,3;n0,4;n0,5;n0,6;n0,7;");
        CHECK.due("life(0, 3): all", all.life(0, 3), 255);
    }

    /** CAN BE by a set, asked by WORTH, of 1 for the LIFE, and by the DRAWER. */
    private static void canBe(String text, int set, boolean can) {
        BottomDrawer d = Check.laid("r99,20;" + text);
        CHECK.due("worth(" + set + ", 0) of " + text, d.worth(set, 0), can ? 1 : 0);
        for (int t = 0; t < d.count(0); t++) {
            if ((set >> t & 1) == 1) {
                d.put(t);
            }
        }
        CHECK.due("life(0, 4) by " + set + " of " + text, d.life(0, 4), can ? 1 : 0);
        CHECK.due("count(4) by " + set + " of " + text, d.count(4), can ? 1 : 0);
        CHECK.due("live(0) by " + set + " of " + text, d.live(0), can ? 0 : BottomDrawer.NO);
    }

    /** "A LIFE CAN BE by a set of THINGS, if all that it NEEDS are in it". */
    private static void allThatItNeeds() {
        // It NEEDS none: by the empty set too.
        canBe("t0,1,0;l1,1,1;", 0, true);
        canBe("t0,1,0;l1,1,1;", 1, true);
        canBe("t0,1,0;l1,1,1;n0,0;", 0, false);
        canBe("t0,1,0;l1,1,1;n0,0;", 1, true);
        canBe("t0,1,0;t0,1,0;l1,1,1;n0,0;", 2, false);
        String all = Check.times("t0,1,0;", 8) + "l1,1,1;n0,0;n0,1;n0,2;n0,3;n0,4;n0,5;n0,6;n0,7;";
        canBe(all, 255, true);
        canBe(all, 127, false);
        canBe(all, 254, false);
        // No other KIND stands in for one.
        canBe("t0,1,0;t0,1,0;l1,1,1;n0,0;", 2, false);
        canBe("t0,1,0;t2,1,0;l1,1,1;n0,0;", 2, false);
        canBe("t0,1,0;t3,1,0;l1,1,1;n0,0;", 2, false);
        canBe("t0,1,0;t1,1,0;l1,1,1;n0,0;", 2, true);
    }

    /** "or all but one, and a FLANNEL one that it does not NEED is". */
    private static void allButOneAndFlannel() {
        String two = "t0,1,0;t0,1,0;t1,1,0;t1,1,0;l1,1,1;n0,0;n0,1;";
        canBe(two, 3, true);
        canBe(two, 7, true);
        canBe(two, 1, false);
        canBe(two, 5, true);
        canBe(two, 6, true);
        canBe(two, 13, true);
        // All but two: neither by one FLANNEL nor by two.
        canBe(two, 4, false);
        canBe(two, 12, false);
        String seven = Check.times("t0,1,0;", 7) + "t1,1,0;l1,1,1;n0,0;n0,1;n0,2;n0,3;n0,4;n0,5;n0,6;";
        canBe(seven, 254, true);
        canBe(seven, 191, true);
        canBe(seven, 252, false);
        canBe(seven, 63, false);
        canBe(seven, 128, false);
    }

    /** ".. that it does not NEED": one that it NEEDS is one of these, and stands in for none. */
    private static void flannelThatItNeeds() {
        String own = "t0,1,0;t1,1,0;t1,1,0;l1,1,1;n0,0;n0,1;";
        canBe(own, 2, false);
        canBe(own, 1, false);
        canBe(own, 3, true);
        canBe(own, 6, true);
        canBe(own, 5, true);
        canBe(own, 4, false);
        // Told once more it does not NEED it: then it stands in.
        canBe(own + "n0,1;", 2, true);
    }

    /** "What all in the DRAWER take of ROOM." */
    private static void roomTaken() {
        Edges fresh = new Edges(CHECK, d -> { });
        fresh.refused("room, empty", d -> d.room(), 0);
        Edges one = Edges.ofText(CHECK, "r99,20;t0,20,0;l0,0,0;");
        one.due("room, full", d -> {
            d.put(0);
            return d.room();
        }, 20);
        one.due("room, out again", d -> {
            d.put(0);
            d.out(0);
            return d.room();
        }, 0);
        BottomDrawer all = Check.laid("r99,20;" + Check.times("t0,12,0;", 8) + "l0,0,0;");
        for (int t = 0; t < 8; t++) {
            all.put(t);
            CHECK.due("room of " + (t + 1), all.room(), 12 * (t + 1));
        }
    }

    /** "but each FOLDING one half of that, cut, if there are two or more FOLDING ones in it". */
    private static void oneHalfCut() {
        for (int size = 1; size <= 20; size++) {
            BottomDrawer d = Check.laid("r99,20;" + Check.times("t3," + size + ",0;", 7) + "t0,7,0;l0,0,0;");
            d.put(7);
            CHECK.due("room with no FOLDING " + size, d.room(), 7);
            d.put(0);
            CHECK.due("room with one FOLDING " + size, d.room(), 7 + size);
            for (int many = 2; many <= 7; many++) {
                d.put(many - 1);
                // Each is cut for itself, not all together.
                CHECK.due("room with " + many + " FOLDING " + size, d.room(), 7 + many * (size / 2));
            }
        }
        // The second FOLDING one need not be as large; ones of another KIND are not halved.
        BottomDrawer d = Check.laid("r99,20;t3,20,0;t3,1,0;t0,9,0;t1,9,0;t2,9,0;l0,0,0;");
        for (int t = 4; t >= 0; t--) {
            d.put(t);
        }
        CHECK.due("room with all KINDS", d.room(), 10 + 9 + 9 + 9);
        d.out(1);
        CHECK.due("room with all KINDS, one FOLDING", d.room(), 20 + 9 + 9 + 9);
    }

    /** "WORTH of a set of THINGS (bits): above (part = 0), below (1). BAD." */
    private static void setsSuchAsThereAre() {
        for (int many = 1; many <= 8; many++) {
            Edges edges = Edges.ofText(CHECK, text(many, 1));
            edges.only("worth(, 0) of " + many, (d, set) -> d.worth(set, 0), 0, (1 << many) - 1);
            edges.only("worth(, 1) of " + many, (d, set) -> d.worth(set, 1), 0, (1 << many) - 1);
        }
        Edges fresh = new Edges(CHECK, d -> { });
        fresh.only("worth(0, )", (d, part) -> d.worth(0, part), 0, 1);
        fresh.only("worth(63, )", (d, part) -> d.worth(63, part), 0, 1);
        for (int many = 1; many <= 6; many++) {
            Edges edges = Edges.ofText(CHECK, text(1, many));
            for (int what = 0; what <= 2; what++) {
                int of = what;
                edges.only("cover(, " + what + ") of " + many, (d, set) -> d.cover(set, of), 0, (1 << many) - 1);
            }
        }
    }

    private static void worth(String text, int set, int above, int below) {
        BottomDrawer d = Check.laid(text);
        CHECK.due("worth(" + set + ", 0) of " + text, d.worth(set, 0), above);
        CHECK.due("worth(" + set + ", 1) of " + text, d.worth(set, 1), below);
    }

    /** "(0, if these are 0)": in lowest terms 0 is 0 above, 1 below. */
    private static void worthOfNoChance() {
        worth("t0,1,0;l0,60,60;", 0, 0, 1);
        worth("t0,1,0;l0,60,60;", 1, 0, 1);
        worth("t0,1,0;" + Check.times("l0,60,60;", 6), 1, 0, 1);
        worth("t0,1,0;l0,60,60;l1,0,60;", 0, 0, 1);
        worth("t0,1,0;l9,0,60;", 0, 0, 1);
        worth("t0,1,0;l9,60,60;n0,0;", 0, 0, 1);
        // One with P is enough; one without it counts neither above nor below.
        worth("t0,1,0;l0,60,60;l1,7,0;", 0, 7, 1);
        worth("t0,1,0;l0,60,60;l1,7,0;n0,0;", 1, 7, 1);
    }

    /** "P times V of all LIVES that CAN BE by it together, by the P of all LIVES together, .. in lowest terms". */
    private static void worthInLowestTerms() {
        worth("t0,1,0;l1,1,0;", 0, 1, 1);
        worth("t0,1,0;l2,1,0;l2,0,0;", 0, 1, 2);
        worth("t0,1,0;l9,8,0;l9,0,0;l9,0,0;", 0, 8, 3);
        worth("t0,1,0;l9,1,0;l9,0,0;l9,0,0;l9,0,0;l9,0,0;l9,0,0;", 0, 1, 6);
        worth("t0,1,0;l1,1,0;l9,0,0;l9,0,0;l9,0,0;l9,0,0;l9,0,0;", 0, 1, 46);
        worth("t0,1,0;l1,1,0;l9,60,0;l9,60,0;l9,60,0;l9,60,0;l9,60,0;", 0, 2701, 46);
        // Those that can't be count below all the same.
        worth("t0,1,0;l3,5,0;l4,60,0;n1,0;", 0, 15, 7);
        worth("t0,1,0;l3,5,0;l4,60,0;n1,0;", 1, 255, 7);
        // What it is worth to him is no matter.
        worth("t0,1,0;l3,0,60;", 0, 0, 1);
    }

    /** The most that "P times V .. together" can come to: six of P 9, V 60; and less by one LIFE that can not be. */
    private static void worthAtMost() {
        worth(Check.times("t0,1,0;", 8) + Check.times("l9,60,60;", 6) + "n0,0;n1,1;n2,2;n3,3;n4,4;n5,5;n5,6;n5,7;",
                255, 60, 1);
        worth(Check.times("t0,1,0;", 8) + Check.times("l9,60,60;", 6) + "n0,0;n1,1;n2,2;n3,3;n4,4;n5,5;n5,6;n5,7;",
                31, 50, 1);
    }
}
