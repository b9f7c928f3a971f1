/**
 * What was SEEN, MOTHS, a YEAR by draws, what is KEPT and counts at their edges: promises 21 to 28.
 * Above each test stand the document's words that it holds the class to.
 */
public final class EdgesOfMothsAndYearsTest {
    private static final Check CHECK = new Check("EdgesOfMothsAndYearsTest");
    private static final int FULL = BottomDrawer.FULL;
    private static final int NO = BottomDrawer.NO;

    public static void main(String[] args) {
        seen8AtMost();
        seenAndNoThing();
        seenStays();
        forget();
        meantOfNothingSeen();
        meantOfAllSeen();
        mothsNumbers();
        mothsOfNoneAndAll();
        mothsOfTheEmptyDrawer();
        mothsInLowestTerms();
        yearNumbers();
        yearOfEachZ();
        yearOfMany();
        yearCoins999AtMost();
        yearLivesInAll();
        yearChangesNothing();
        kept2AtMost();
        backOfNone();
        backToTheLast();
        keptIsAll();
        countNumbers();
        countAtMost();
        CHECK.end();
    }

    /** "SEEN (8 at most)"; "SEEN: how many. BAD; FULL." */
    private static void seen8AtMost() {
        for (int was = 0; was <= 1; was++) {
            boolean meant = was == 1;
            BottomDrawer d = Check.laid(Check.times("t0,1,0;", 8) + "l0,0,0;");
            for (int i = 1; i <= 8; i++) {
                CHECK.due("see no. " + i, d.see(i - 1, meant), i);
                CHECK.due("SEEN", d.count(8), i);
            }
            CHECK.due("see no. 9", d.see(0, meant), FULL);
            CHECK.due("see no. 9, the other way", d.see(0, !meant), FULL);
            CHECK.due("SEEN, full", d.count(8), 8);
            CHECK.due("forget, full", d.forget(), 8);
            CHECK.due("see, forgotten", d.see(7, meant), 1);
        }
        // One that is SEEN more than once counts each time.
        Edges full = new Edges(CHECK, d -> {
            for (int i = 0; i < 8; i++) {
                d.see(0, true);
            }
        });
        full.refused("see(0, true), full of the same", d -> d.see(0, true), FULL);
        full.refused("see(0, false), full of the same", d -> d.see(0, false), FULL);
        full.refused("see(5, false), full of the same", d -> d.see(5, false), FULL);
        full.refused("meant, full of the same", d -> d.meant(), 3);
    }

    /** BAD ahead of FULL. */
    private static void seenAndNoThing() {
        Edges full = new Edges(CHECK, Edges::busy);
        full.refused("see(0, true), full", d -> d.see(0, true), FULL);
        full.refused("see(5, false), full", d -> d.see(5, false), FULL);
        full.only("see(, true), full", (d, t) -> d.see(t, true), 0, 5);
        full.only("see(, false), full", (d, t) -> d.see(t, false), 0, 5);
        new Edges(CHECK, d -> { }).only("see(, true), none", (d, t) -> d.see(t, true), 0, 5);
    }

    /** What is SEEN stays, whatever is PUT BY, LIVED, UNDONE, KEPT or written; by back() too. */
    private static void seenStays() {
        BottomDrawer d = new BottomDrawer();
        d.keep();
        d.see(0, true);
        d.see(2, false);
        d.put(0);
        d.pass(1);
        d.undo();
        d.keep();
        d.back();
        d.back();
        d.write('t');
        d.wipe();
        CHECK.due("lay of nothing", d.lay(), NO);
        CHECK.due("SEEN stays", d.count(8), 2);
        CHECK.due("MEANT stays", d.meant(), 2);
    }

    /** "Nothing is SEEN: how many were." */
    private static void forget() {
        for (int many = 0; many <= 8; many++) {
            BottomDrawer d = new BottomDrawer();
            for (int i = 0; i < many; i++) {
                d.see(i % 6, i % 2 == 0);
            }
            CHECK.due("forget of " + many, d.forget(), many);
            CHECK.due("SEEN, forgotten", d.count(8), 0);
            CHECK.due("MEANT, forgotten", d.meant(), 15);
            CHECK.due("forget again", d.forget(), 0);
        }
        BottomDrawer busy = new BottomDrawer();
        Edges.busy(busy);
        BottomDrawer same = new BottomDrawer();
        Edges.busy(same);
        busy.forget();
        String want = Check.look(same).replace(" 22 8 8 2 ", " 22 0 8 2 ");
        want = want.substring(0, want.indexOf(" meant")) + " meant 15";
        CHECK.same("forget changes what is SEEN alone", Check.look(busy), want);
    }

    /** "MEANT: LIVES (bits) that NEED all that was SEEN to be, and none that was SEEN not to be": all, if nothing was. */
    private static void meantOfNothingSeen() {
        for (int lives = 1; lives <= 6; lives++) {
            Edges edges = Edges.ofText(CHECK, "t0,1,0;" + Check.times("l0,0,0;", lives) + "n0,0;");
            edges.refused("meant of " + lives, d -> d.meant(), (1 << lives) - 1);
        }
        BottomDrawer d = Check.laid("t0,1,0;t0,1,0;l0,0,0;l0,0,0;n0,0;");
        d.see(0, true);
        CHECK.due("meant by 0", d.meant(), 1);
        d.see(1, true);
        CHECK.due("meant by 0 and 1: none", d.meant(), 0);
        d.forget();
        d.see(0, false);
        CHECK.due("meant by not 0", d.meant(), 2);
        d.see(0, true);
        CHECK.due("meant by not 0 and 0: none", d.meant(), 0);
        d.forget();
        d.see(0, true);
        d.see(0, false);
        CHECK.due("meant by 0 and not 0: none", d.meant(), 0);
    }

    /** "all that was SEEN to be, and none that was SEEN not to be": up to 8 SEEN, each of them counts. */
    private static void meantOfAllSeen() {
        String all = Check.times("t0,1,0;", 8) + "l0,0,0;l0,0,0;l0,0,0;n0,0;n0,1;n0,2;n0,3;n0,4;n0,5;n0,6;n0,7;n1,7;";
        BottomDrawer d = Check.laid(all);
        for (int t = 0; t < 7; t++) {
            d.see(t, true);
            CHECK.due("meant by all to " + t, d.meant(), 1);
        }
        d.see(7, false);
        CHECK.due("meant by all but the last", d.meant(), 0);
        d.forget();
        for (int t = 0; t < 7; t++) {
            d.see(t, false);
            CHECK.due("meant by none to " + t, d.meant(), 6);
        }
        d.see(7, true);
        CHECK.due("meant by the last alone", d.meant(), 2);
        // The first of what was SEEN counts as the last does.
        d.forget();
        d.see(0, true);
        d.see(7, true);
        CHECK.due("meant by the first and the last", d.meant(), 1);
        d.forget();
        d.see(0, false);
        d.see(1, false);
        CHECK.due("meant by neither of the first", d.meant(), 6);
        d.see(7, false);
        d.see(6, false);
        CHECK.due("meant by neither of the first nor of the last", d.meant(), 4);
        // FLANNEL stands in for none of what is NEEDED here; what is in, or LIVED, is no matter.
        BottomDrawer f = Check.laid("t1,1,0;t0,1,0;l0,0,0;n0,1;");
        f.put(0);
        f.live(0);
        f.see(0, true);
        CHECK.due("meant by FLANNEL", f.meant(), 0);
    }

    private static void moths(String standing, BottomDrawer d, int l, int x, int above, int below) {
        CHECK.due("moths(" + l + ", " + x + ", 0), " + standing, d.moths(l, x, 0), above);
        CHECK.due("moths(" + l + ", " + x + ", 1), " + standing, d.moths(l, x, 1), below);
    }

    /** "lost by x (0 to 10) of ten"; "above (part = 0), below (1). BAD." (LIVES: EdgesOfThingsAndLivesTest.) */
    private static void mothsNumbers() {
        Edges busy = new Edges(CHECK, Edges::busy);
        Edges fresh = new Edges(CHECK, d -> { });
        for (int part = 0; part <= 1; part++) {
            int of = part;
            busy.only("moths(0, , " + part + "), busy", (d, x) -> d.moths(0, x, of), 0, 10);
            fresh.only("moths(3, , " + part + ")", (d, x) -> d.moths(3, x, of), 0, 10);
            busy.only("moths(, 10, " + part + "), busy", (d, l) -> d.moths(l, 10, of), 0, 3);
        }
        busy.only("moths(0, 0, ), busy", (d, part) -> d.moths(0, 0, part), 0, 1);
        busy.only("moths(3, 10, ), busy", (d, part) -> d.moths(3, 10, part), 0, 1);
        busy.unchanged("moths(0, 10, 0)", d -> d.moths(0, 10, 0));
    }

    /** x of 0: nothing is lost; x of 10: all is. */
    private static void mothsOfNoneAndAll() {
        BottomDrawer d = Check.laid("r99,20;t0,1,0;t1,1,0;t0,1,0;l1,1,1;l1,1,1;l1,1,1;n0,0;n0,2;n2,1;n2,0;n2,2;");
        d.put(0);
        d.put(1);
        moths("FLANNEL for one", d, 0, 0, 1, 1);
        moths("FLANNEL for one", d, 0, 10, 0, 1);
        moths("no NEEDS", d, 1, 0, 1, 1);
        moths("no NEEDS", d, 1, 10, 1, 1);
        moths("one is not in", d, 2, 0, 0, 1);
        moths("one is not in", d, 2, 10, 0, 1);
        for (int x = 1; x <= 9; x++) {
            moths("no NEEDS", d, 1, x, 1, 1);
            moths("one is not in", d, 2, x, 0, 1);
        }
        // FLANNEL lost too stands in for nothing; a LIFE that NEEDS but one CAN BE by either.
        BottomDrawer one = Check.laid("t0,1,0;t1,1,0;l1,1,1;n0,0;");
        one.put(1);
        moths("by FLANNEL alone", one, 0, 0, 1, 1);
        moths("by FLANNEL alone", one, 0, 1, 9, 10);
        moths("by FLANNEL alone", one, 0, 9, 1, 10);
        moths("by FLANNEL alone", one, 0, 10, 0, 1);
    }

    /** "each THING in the DRAWER": where there is none, nothing is lost, and it is 0 or 1 for each x. */
    private static void mothsOfTheEmptyDrawer() {
        BottomDrawer d = Check.laid("t0,1,0;l1,1,1;l1,1,1;n0,0;");
        for (int x = 0; x <= 10; x++) {
            moths("empty", d, 0, x, 0, 1);
            moths("empty", d, 1, x, 1, 1);
        }
        // LIVED is no matter.
        d.live(1);
        moths("LIVED", d, 1, 5, 1, 1);
    }

    /** "in lowest terms", up to eight THINGS. */
    private static void mothsInLowestTerms() {
        int[] above = {1, 9, 4, 7, 3, 1, 2, 3, 1, 1, 0};
        int[] below = {1, 10, 5, 10, 5, 2, 5, 10, 5, 10, 1};
        for (int many = 1; many <= 8; many++) {
            StringBuilder text = new StringBuilder(Check.times("t0,1,0;", many) + "l1,1,1;");
            for (int t = 0; t < many; t++) {
                text.append("n0,").append(t).append(';');
            }
            BottomDrawer d = Check.laid("r99,0;" + text);
            for (int t = 0; t < many; t++) {
                d.put(t);
            }
            for (int x = 0; x <= 10; x++) {
                int up = 1;
                int down = 1;
                for (int t = 0; t < many; t++) {
                    up *= above[x];
                    down *= below[x];
                }
                moths("all of " + many, d, 0, x, up, down);
            }
        }
        // Those that it does not NEED are no matter, however many there are.
        BottomDrawer most = Check.laid("r99,0;" + Check.times("t0,1,0;", 8) + "l1,1,1;l1,1,1;n0,7;");
        for (int t = 0; t < 8; t++) {
            most.put(t);
        }
        moths("one of eight", most, 0, 9, 1, 10);
        moths("none of eight", most, 1, 9, 1, 1);
    }

    /** "by z (0 to 9999) of n (1 to 40) years from now on"; "LIVES (what = 0), COINS (1). BAD." */
    private static void yearNumbers() {
        Edges busy = new Edges(CHECK, Edges::busy);
        Edges fresh = new Edges(CHECK, d -> { });
        for (int what = 0; what <= 1; what++) {
            int of = what;
            busy.only("year(, 1, " + what + "), busy", (d, z) -> d.year(z, 1, of), 0, 9999);
            fresh.only("year(, 40, " + what + ")", (d, z) -> d.year(z, 40, of), 0, 9999);
            busy.only("year(0, , " + what + "), busy", (d, n) -> d.year(0, n, of), 1, 40);
            fresh.only("year(9999, , " + what + ")", (d, n) -> d.year(9999, n, of), 1, 40);
        }
        busy.only("year(0, 1, ), busy", (d, what) -> d.year(0, 1, what), 0, 1);
        fresh.only("year(9999, 40, )", (d, what) -> d.year(9999, 40, what), 0, 1);
    }

    /** One YEAR, one THING, one LIFE that NEEDS it: each z, its DRAW found by remainders that fit an int. */
    private static void yearOfEachZ() {
        BottomDrawer out = null;
        BottomDrawer in = null;
        for (int z = 0; z <= 9999; z++) {
            if (z % 200 == 0) {
                out = Check.laid("r9,5;t0,1,3;l1,1,1;n0,0;");
                in = Check.laid("r9,5;t0,1,3;l1,1,1;n0,0;");
                in.put(0);
            }
            long rest = (7919 * z + 1) % 65521;
            int draw = (int) (rest * rest % 65521);
            int lives = draw / 256 % 2 == 0 ? 1 : 0;
            int stays = draw / 8 % 3 == 0 ? 0 : 1;
            CHECK.due("year(" + z + ", 1, 0), not in", out.year(z, 1, 0), lives);
            CHECK.due("year(" + z + ", 1, 1), not in", out.year(z, 1, 1), 5 - 3 + 5);
            CHECK.due("year(" + z + ", 1, 0), in", in.year(z, 1, 0), lives * stays);
            CHECK.due("year(" + z + ", 1, 1), in", in.year(z, 1, 1), 2 + 5);
        }
    }

    /** "in the k-th (0 first)", up to n of 40: beside the model of the document, from several standings. */
    private static void yearOfMany() {
        String[] texts = {"r20,5;t0,5,3;t2,4,4;t1,3,2;t3,9,1;t3,8,6;l1,1,1;l1,1,1;l1,1,1;n0,0;n0,1;n1,3;n1,4;n2,1;n2,2;",
            "r9,20;" + Check.times("t2,2,5;", 7) + Check.times("l1,1,1;", 5) + "n0,0;n0,1;n1,2;n2,3;n2,4;n3,5;n4,6;n4,0;",
            "r1,0;t0,1,0;l1,1,1;n0,0;", Edges.FULL_TEXT};
        int[] draws = {0, 1, 2, 4999, 5000, 9998, 9999};
        int[] years = {1, 2, 3, 39, 40};
        for (String text : texts) {
            BottomDrawer d = Check.laid(text);
            Model m = new Model();
            for (int i = 0; i < text.length(); i++) {
                m.write(text.charAt(i));
            }
            CHECK.due("lay of the model", m.lay(), d.count(1));
            for (int z : draws) {
                for (int n : years) {
                    CHECK.due("year(" + z + ", " + n + ", 0) of " + text, d.year(z, n, 0), m.year(z, n, 0));
                    CHECK.due("year(" + z + ", " + n + ", 1) of " + text, d.year(z, n, 1), m.year(z, n, 1));
                }
            }
        }
    }

    /** "In a YEAR the AUNTS have A COINS more (999 at most)". */
    private static void yearCoins999AtMost() {
        BottomDrawer d = Check.laid("r20,20;t0,1,0;l0,0,0;");
        for (int i = 0; i < 2; i++) {
            d.pass(20);
        }
        for (int n = 1; n <= 40; n++) {
            CHECK.due("year(0, " + n + ", 1) from 820", d.year(0, n, 1), Math.min(999, 820 + 20 * n));
        }
        // What is paid in a YEAR is paid ahead of its COINS: 999, less 7, and 5 more; 999 again in the next.
        BottomDrawer rich = Check.laid("r20,5;t0,1,7;l0,0,0;");
        for (int i = 0; i < 10; i++) {
            rich.pass(20);
        }
        CHECK.due("COINS", rich.count(6), 999);
        CHECK.due("year(0, 1, 1) from 999", rich.year(0, 1, 1), 997);
        CHECK.due("year(0, 2, 1) from 999", rich.year(0, 2, 1), 999);
    }

    /** "how many LIVES are LIVED then": none, those of now too, all. */
    private static void yearLivesInAll() {
        BottomDrawer none = Check.laid("r1,0;t0,2,0;l1,1,1;n0,0;");
        CHECK.due("year(0, 40, 0), none CAN BE", none.year(0, 40, 0), 0);
        BottomDrawer all = Check.laid("t0,1,0;" + Check.times("l1,1,1;", 6));
        for (int l = 0; l < 6; l++) {
            all.live(l);
        }
        CHECK.due("year(0, 1, 0), all LIVED", all.year(0, 1, 0), 6);
        CHECK.due("year(9999, 40, 0), all LIVED", all.year(9999, 40, 0), 6);
    }

    /** "of n .. years from now on": how it would be then; all stands as it stood. */
    private static void yearChangesNothing() {
        Edges busy = new Edges(CHECK, Edges::busy);
        Edges fresh = new Edges(CHECK, d -> { });
        busy.unchanged("year(9999, 40, 0), busy", d -> d.year(9999, 40, 0));
        fresh.unchanged("year(0, 40, 1)", d -> d.year(0, 40, 1));
        // Asked again it is the same, and it goes from now on, not from where the last one came to.
        fresh.due("year(5, 40, 1) again", d -> d.year(5, 40, 1) + d.year(5, 40, 1), 2 * 221);
        fresh.due("year(5, 40, 0) again", d -> d.year(5, 40, 0) + d.year(5, 40, 0), 2 * 3);
    }

    /** "2 at most"; "KEPT: how many. FULL." */
    private static void kept2AtMost() {
        BottomDrawer d = new BottomDrawer();
        CHECK.due("keep no. 1", d.keep(), 1);
        CHECK.due("keep no. 2, as it stands alike", d.keep(), 2);
        CHECK.due("keep no. 3", d.keep(), FULL);
        CHECK.due("KEPT", d.count(10), 2);
        CHECK.due("back", d.back(), 1);
        CHECK.due("keep behind back", d.keep(), 2);
        CHECK.due("keep no. 3 again", d.keep(), FULL);
        Edges full = new Edges(CHECK, x -> {
            Edges.busy(x);
            x.pass(1);
        });
        full.refused("keep, full", x -> x.keep(), FULL);
    }

    /** "NO." */
    private static void backOfNone() {
        Edges fresh = new Edges(CHECK, d -> {
            d.put(0);
            d.see(0, true);
        });
        fresh.refused("back, none KEPT", d -> d.back(), NO);
        Edges gone = new Edges(CHECK, d -> {
            Edges.busy(d);
            d.back();
            d.back();
            d.pass(3);
        });
        gone.refused("back, both gone", d -> d.back(), NO);
        Edges laid = new Edges(CHECK, d -> {
            Edges.busy(d);
            Edges.lay(d, "t0,1,0;l0,0,0;");
        });
        laid.refused("back behind lay", d -> d.back(), NO);
    }

    /** "As KEPT last (it is KEPT no more then): how many are left; nothing is UNDONE then." */
    private static void backToTheLast() {
        BottomDrawer d = new BottomDrawer();
        Edges.busy(d);
        CHECK.due("can be UNDONE", d.count(9), 8);
        CHECK.due("back", d.back(), 1);
        CHECK.due("COINS, as KEPT last", d.count(6), 124);
        CHECK.due("can be UNDONE, as KEPT last", d.count(9), 0);
        CHECK.due("undo, as KEPT last", d.undo(), NO);
        d.pass(1);
        CHECK.due("undo of one behind back", d.undo(), 0);
        CHECK.due("back to the first", d.back(), 0);
        CHECK.due("COINS, as KEPT first", d.count(6), 9);
        CHECK.due("undo, as KEPT first", d.undo(), NO);
        CHECK.due("back, none KEPT", d.back(), NO);
    }

    /** "KEPT is all as it stands, but what is SEEN and THE TEXT": DRAWER, LIVED, COINS, YEAR. */
    private static void keptIsAll() {
        BottomDrawer d = Check.laid("r20,9;t2,1,2;t0,1,3;l1,1,1;l1,1,1;n0,0;");
        d.put(0);
        d.live(1);
        d.pass(4);
        d.keep();
        String kept = Check.look(d);
        d.put(1);
        d.live(0);
        d.pass(20);
        d.out(1);
        d.back();
        CHECK.same("as KEPT", Check.look(d), kept.replace(" 43 4 0 3 1 ", " 43 4 0 0 0 "));
        CHECK.due("in it, as KEPT", d.thing(0, 3), 1);
        CHECK.due("LIVED, as KEPT", d.life(1, 5), 1);
        CHECK.due("not LIVED, as KEPT", d.life(0, 5), 0);
        // What changes behind keep() does not change what is KEPT, nor does back() what is KEPT below.
        BottomDrawer two = new BottomDrawer();
        two.keep();
        two.put(0);
        two.keep();
        two.out(0);
        two.undo();
        two.undo();
        CHECK.due("THINGS, UNDONE", two.count(3), 0);
        two.back();
        CHECK.due("THINGS, as KEPT last", two.count(3), 1);
        two.pass(20);
        two.back();
        CHECK.due("THINGS, as KEPT first", two.count(3), 0);
        CHECK.due("COINS, as KEPT first", two.count(6), 6);
        CHECK.due("YEARS, as KEPT first", two.count(7), 0);
    }

    /** "0 THINGS, .. 11 letters of THE TEXT. BAD." */
    private static void countNumbers() {
        new Edges(CHECK, d -> { }).only("count", (d, what) -> d.count(what), 0, 11);
        new Edges(CHECK, Edges::busy).only("count, busy", (d, what) -> d.count(what), 0, 11);
    }

    private static void count(String standing, BottomDrawer d, int... want) {
        for (int what = 0; what < want.length; what++) {
            CHECK.due("count(" + what + "), " + standing, d.count(what), want[what]);
        }
    }

    /** Each count at its least and at its most. */
    private static void countAtMost() {
        count("least", Check.laid("r1,0;t0,1,0;l0,0,0;n0,0;"), 1, 1, 1, 0, 0, 0, 0, 0, 0, 0, 0, 24);
        BottomDrawer d = Check.laid(Edges.FULL_TEXT);
        for (int i = 0; i < 3; i++) {
            d.pass(20);
        }
        for (int t = 0; t < 8; t++) {
            d.put(t);
        }
        for (int l = 0; l < 6; l++) {
            d.live(l);
        }
        d.keep();
        d.keep();
        for (int t = 0; t < 8; t++) {
            d.see(t, true);
        }
        count("most", d, 8, 6, 99, 8, 6, 6, 839, 60, 8, 8, 2, 200);
        d.pass(20);
        count("most of COINS", d, 8, 6, 99, 8, 6, 6, 999, 80, 8, 8, 2, 200);
    }
}
