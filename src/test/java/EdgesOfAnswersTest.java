/**
 * The last paragraph of "Terms", for every call that it can meet: "BAD: a number is none that is told ..
 * NO: not as things stand. NONE: there is none. FULL. Of several the first in this order, whatever the order
 * at a call; nothing changes then."
 */
public final class EdgesOfAnswersTest {
    private static final Check CHECK = new Check("EdgesOfAnswersTest");
    private static final int BAD = BottomDrawer.BAD;
    private static final int NO = BottomDrawer.NO;
    private static final int NONE = BottomDrawer.NONE;
    private static final int FULL = BottomDrawer.FULL;

    private interface CallOfTwo {
        int on(BottomDrawer d, int a, int b);
    }

    private interface CallOfThree {
        int on(BottomDrawer d, int a, int b, int c);
    }

    /** Nothing is in, nothing CAN BE, there are no COINS, and THE TEXT has a FAULT. */
    private static final Edges BARE = new Edges(CHECK, d -> {
        Edges.lay(d, "r9,0;t0,1,1;t0,1,1;l1,1,1;l1,1,1;n0,0;n1,1;");
        d.write('x');
    });
    /** As much as can be is SEEN, KEPT, can be UNDONE, is in, was LIVED; THE TEXT is full. */
    private static final Edges FILLED = new Edges(CHECK, EdgesOfAnswersTest::fill);

    public static void main(String[] args) {
        constants();
        badOfOne();
        badOfTwo();
        badOfThree();
        badAheadOfNo();
        badAheadOfNone();
        badAheadOfFull();
        noOfEach();
        noneOfEach();
        fullOfEach();
        CHECK.end();
    }

    private static void fill(BottomDrawer d) {
        Edges.lay(d, Edges.FULL_TEXT);
        for (int i = 0; i < 3; i++) {
            d.pass(20);
        }
        d.keep();
        d.keep();
        for (int t = 0; t < 8; t++) {
            d.put(t);
            d.see(t, t % 2 == 0);
        }
        for (int l = 0; l < 6; l++) {
            d.live(l);
        }
    }

    /** The numbers that stand for BAD, NO, FULL and NONE on the public face. */
    private static void constants() {
        CHECK.due("BAD", BAD, -1);
        CHECK.due("NO", NO, -2);
        CHECK.due("FULL", FULL, -3);
        CHECK.due("NONE", NONE, -4);
    }

    /** "BAD: a number is none that is told", where nothing is and where all is full. */
    private static void badOfOne() {
        for (int i = 0; i <= 1; i++) {
            Edges edges = i == 0 ? BARE : FILLED;
            edges.only("write", (d, letter) -> d.write(letter), 32, 126);
            edges.only("put", (d, t) -> d.put(t), 0, i == 0 ? 1 : 7);
            edges.only("out", (d, t) -> d.out(t), 0, i == 0 ? 1 : 7);
            edges.only("live", (d, l) -> d.live(l), 0, i == 0 ? 1 : 5);
            edges.only("pass", (d, n) -> d.pass(n), 1, 20);
            edges.only("row", (d, k) -> d.row(k), 0, 6);
            edges.only("talk", (d, what) -> d.talk(what), 0, 1);
            edges.only("see", (d, t) -> d.see(t, true), 0, i == 0 ? 1 : 7);
            edges.only("count", (d, what) -> d.count(what), 0, 11);
        }
    }

    /** One of both numbers is none that is told, or both are. */
    private static void two(String call, CallOfTwo asked, int highA, int highB) {
        int[] as = {Integer.MIN_VALUE, -1, 0, highA, highA + 1, Integer.MAX_VALUE};
        int[] bs = {Integer.MIN_VALUE, -1, 0, highB, highB + 1, Integer.MAX_VALUE};
        for (int a : as) {
            for (int b : bs) {
                String told = call + "(" + a + ", " + b + ")";
                if (a < 0 || a > highA || b < 0 || b > highB) {
                    FILLED.refused(told, d -> asked.on(d, a, b), BAD);
                } else {
                    FILLED.unchanged(told, d -> asked.on(d, a, b));
                }
            }
        }
    }

    /** "BAD ..": as above, for calls of two numbers. */
    private static void badOfTwo() {
        two("thing", (d, t, what) -> d.thing(t, what), 7, 5);
        two("life", (d, l, what) -> d.life(l, what), 5, 5);
        two("worth", (d, set, part) -> d.worth(set, part), 255, 1);
        two("best", (d, n, what) -> d.best(n, what), 20, 2);
        two("cover", (d, set, what) -> d.cover(set, what), 63, 2);
    }

    /** "BAD ..": as above, for calls of three numbers. */
    private static void badOfThree() {
        three("moths", (d, l, x, part) -> d.moths(l, x, part), new int[] {0, 0, 0}, new int[] {5, 10, 1});
        three("year", (d, z, n, what) -> d.year(z, n, what), new int[] {0, 1, 0}, new int[] {9999, 40, 1});
    }

    private static void three(String call, CallOfThree asked, int[] low, int[] high) {
        int[][] numbers = new int[3][];
        for (int i = 0; i < 3; i++) {
            numbers[i] = new int[] {Integer.MIN_VALUE, low[i] - 1, low[i], high[i], high[i] + 1, Integer.MAX_VALUE};
        }
        for (int a : numbers[0]) {
            for (int b : numbers[1]) {
                for (int c : numbers[2]) {
                    boolean told = a >= low[0] && a <= high[0] && b >= low[1] && b <= high[1] && c >= low[2] && c <= high[2];
                    if (!told) {
                        FILLED.refused(call + "(" + a + ", " + b + ", " + c + ")", d -> asked.on(d, a, b, c), BAD);
                    }
                }
            }
        }
        FILLED.unchanged(call + " at its least", d -> asked.on(d, low[0], low[1], low[2]));
        FILLED.unchanged(call + " at its most", d -> asked.on(d, high[0], high[1], high[2]));
    }

    /** Where no THING can be PUT BY or TAKEN OUT and no LIFE can be LIVED, what there is not is BAD all the same. */
    private static void badAheadOfNo() {
        for (int t = 0; t <= 1; t++) {
            int of = t;
            BARE.refused("put(" + t + "), bare", d -> d.put(of), NO);
            BARE.refused("out(" + t + "), bare", d -> d.out(of), NO);
            BARE.refused("live(" + t + "), bare", d -> d.live(of), NO);
        }
        BARE.refused("put(2), bare", d -> d.put(2), BAD);
        BARE.refused("out(2), bare", d -> d.out(2), BAD);
        BARE.refused("live(2), bare", d -> d.live(2), BAD);
        for (int i = 0; i <= 7; i++) {
            int of = i;
            FILLED.refused("put(" + i + "), filled", d -> d.put(of), NO);
            FILLED.refused("live(" + i + "), filled", d -> d.live(of), i <= 5 ? NO : BAD);
        }
        FILLED.refused("put(8), filled", d -> d.put(8), BAD);
    }

    /** "Of several the first in this order": none is left, or CAN BE, and the number is none that is told. */
    private static void badAheadOfNone() {
        BARE.refused("talk(0), bare", d -> d.talk(0), NONE);
        BARE.refused("talk(1), bare", d -> d.talk(1), NONE);
        BARE.refused("talk(2), bare", d -> d.talk(2), BAD);
        BARE.refused("talk(-1), bare", d -> d.talk(-1), BAD);
        BARE.refused("row(1), bare", d -> d.row(1), NONE);
        BARE.refused("row(6), bare", d -> d.row(6), NONE);
        BARE.refused("row(7), bare", d -> d.row(7), BAD);
        BARE.refused("row(-1), bare", d -> d.row(-1), BAD);
        FILLED.refused("row(0), filled", d -> d.row(0), 0);
        FILLED.refused("row(1), filled", d -> d.row(1), NONE);
        FILLED.refused("row(7), filled", d -> d.row(7), BAD);
    }

    /** "Of several the first in this order": it is full, and the number is none that is told. */
    private static void badAheadOfFull() {
        FILLED.refused("write(32), filled", d -> d.write(32), FULL);
        FILLED.refused("write(31), filled", d -> d.write(31), BAD);
        FILLED.refused("write(126), filled", d -> d.write(126), FULL);
        FILLED.refused("write(127), filled", d -> d.write(127), BAD);
        FILLED.refused("see(7, true), filled", d -> d.see(7, true), FULL);
        FILLED.refused("see(8, true), filled", d -> d.see(8, true), BAD);
        FILLED.refused("see(0, false), filled", d -> d.see(0, false), FULL);
        FILLED.refused("see(-1, false), filled", d -> d.see(-1, false), BAD);
    }

    /** "NO: not as things stand", of each call that can answer it. */
    private static void noOfEach() {
        BARE.refused("lay, bare", d -> d.lay(), NO);
        BARE.refused("undo, bare", d -> d.undo(), NO);
        BARE.refused("back, bare", d -> d.back(), NO);
        BARE.refused("put(0), bare", d -> d.put(0), NO);
        BARE.refused("out(0), bare", d -> d.out(0), NO);
        BARE.refused("live(0), bare", d -> d.live(0), NO);
    }

    /** "NONE: there is none", of each call that can answer it. */
    private static void noneOfEach() {
        BARE.refused("serves, bare", d -> d.serves(), NONE);
        BARE.refused("row(1), bare", d -> d.row(1), NONE);
        BARE.refused("talk(0), bare", d -> d.talk(0), NONE);
        BARE.refused("talk(1), bare", d -> d.talk(1), NONE);
        FILLED.refused("fault, filled", d -> d.fault(), NONE);
        // Where none are asked for as bits or as how many, there is no NONE.
        BARE.refused("row(0), bare", d -> d.row(0), 0);
        BARE.refused("bargain, bare", d -> d.bargain(), 0);
        BARE.refused("cover(0, 0), bare", d -> d.cover(0, 0), 0);
        BARE.refused("best(20, 0), bare", d -> d.best(20, 0), 0);
        BARE.refused("forget, bare", d -> d.forget(), 0);
        BARE.refused("room, bare", d -> d.room(), 0);
        FILLED.refused("meant, filled", d -> d.meant(), 0);
    }

    /** "FULL", of each call that can answer it. */
    private static void fullOfEach() {
        FILLED.refused("write('r'), filled", d -> d.write('r'), FULL);
        FILLED.refused("see(0, true), filled", d -> d.see(0, true), FULL);
        FILLED.refused("keep, filled", d -> d.keep(), FULL);
    }
}
