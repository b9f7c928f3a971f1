/**
 * Calls at the edges of what the document tells. Each is asked of a new object that was brought to the same
 * standing, so that a refused call can be looked behind, down to what would be UNDONE and what is KEPT, and
 * no object comes near its 512th call.
 */
final class Edges {
    interface Ahead {
        void on(BottomDrawer d);
    }

    interface Call {
        int on(BottomDrawer d);
    }

    interface CallOf {
        int on(BottomDrawer d, int number);
    }

    /** The far ends of int, and numbers that would be small ones if they were cut to fewer bits or shifted by. */
    static final int[] FAR = {Integer.MIN_VALUE, Integer.MIN_VALUE + 1, -65536, -65535, -257, -256, -255, -128, -33,
        -32, -31, -2, -1, 31, 32, 33, 127, 128, 255, 256, 257, 65535, 65536, 65537, 65536 + 'a', 1 << 30,
        Integer.MAX_VALUE - 1, Integer.MAX_VALUE};
    /** 200 letters, the most of each number, of THINGS and of LIVES. */
    static final String FULL_TEXT = "r99,20;" + Check.times("t3,20,20;", 8) + Check.times("l9,60,60;", 6)
            + "n0,0;n0,1;n1,2;n1,3;n2,4;n2,5;n3,6;n3,7;n4,0;n4,2;n5,4;n5,06;n5,07;";

    private final Check check;
    private final Ahead ahead;
    private final String standing;

    Edges(Check check, Ahead ahead) {
        this.check = check;
        this.ahead = ahead;
        this.standing = whole(ahead);
    }

    static Edges ofText(Check check, String text) {
        return new Edges(check, d -> lay(d, text));
    }

    static void lay(BottomDrawer d, String text) {
        Check.write(d, text);
        if (d.lay() < 0) {
            throw new IllegalStateException("the test's own text can't be laid: " + text);
        }
    }

    /** For a new object: as many SEEN, to be UNDONE and KEPT as can be, and each kind of change among these. */
    static void busy(BottomDrawer d) {
        d.put(0);
        d.pass(2);
        d.put(2);
        d.put(1);
        d.keep();
        d.live(0);
        d.pass(20);
        d.put(3);
        d.keep();
        d.put(5);
        d.out(0);
        for (int i = 0; i < 8; i++) {
            d.see(i % 2 == 0 ? 5 : 0, i % 2 == 0);
        }
    }

    void due(String call, Call asked, int want) {
        check.due(call, asked.on(made(ahead)), want);
    }

    /** The call answers so, and nothing changes. */
    void refused(String call, Call asked, int want) {
        due(call, asked, want);
        unchanged(call, asked);
    }

    void unchanged(String call, Call asked) {
        check.same("all that stands behind " + call, whole(d -> {
            ahead.on(d);
            asked.on(d);
        }), standing);
    }

    /** Of all numbers those from low to high are told: each other one is BAD, and nothing changes then. */
    void only(String call, CallOf asked, int low, int high) {
        taken(call, asked, low);
        taken(call, asked, high);
        for (int number = low + 1; number < high && number < low + 300; number++) {
            taken(call, asked, number);
        }
        bad(call, asked, low - 1);
        bad(call, asked, high + 1);
        for (int number : FAR) {
            if (number < low || number > high) {
                bad(call, asked, number);
            }
        }
    }

    private void taken(String call, CallOf asked, int number) {
        boolean isBad = asked.on(made(ahead), number) == BottomDrawer.BAD;
        check.due(call + " of " + number + " is BAD", isBad ? 1 : 0, 0);
    }

    private void bad(String call, CallOf asked, int number) {
        refused(call + " of " + number, d -> asked.on(d, number), BottomDrawer.BAD);
    }

    private static BottomDrawer made(Ahead ahead) {
        BottomDrawer d = new BottomDrawer();
        ahead.on(d);
        return d;
    }

    /** All that can be found out of a standing. */
    static String whole(Ahead ahead) {
        StringBuilder all = new StringBuilder();
        BottomDrawer d = made(ahead);
        all.append(Check.look(d));
        askAll(made(ahead), all);
        int undone = d.count(9);
        for (int many = 1; many <= undone; many++) {
            BottomDrawer past = made(ahead);
            for (int i = 0; i < many; i++) {
                all.append("\n  undo ").append(past.undo());
            }
            all.append(": ").append(Check.look(past));
        }
        int kept = d.count(10);
        for (int many = 1; many <= kept; many++) {
            BottomDrawer past = made(ahead);
            for (int i = 0; i < many; i++) {
                all.append("\n  back ").append(past.back());
            }
            all.append(": ").append(Check.look(past));
        }
        BottomDrawer next = made(ahead);
        all.append("\n  forget ").append(next.forget()).append(" lay ").append(next.lay());
        return all.append(": ").append(Check.look(next)).toString();
    }

    private static void askAll(BottomDrawer d, StringBuilder all) {
        int lives = d.count(1);
        int allThings = (1 << d.count(0)) - 1;
        all.append("\n  worth ").append(d.worth(allThings, 0)).append('/').append(d.worth(allThings, 1));
        for (int what = 0; what <= 2; what++) {
            all.append(" best ").append(d.best(0, what)).append(',').append(d.best(20, what));
            all.append(" cover ").append(d.cover((1 << lives) - 1, what));
        }
        all.append(" serves ").append(d.serves()).append(" row");
        for (int k = 0; k <= 6; k++) {
            all.append(' ').append(d.row(k));
        }
        all.append(" bargain ").append(d.bargain()).append(" talk ").append(d.talk(0)).append(',').append(d.talk(1));
        for (int l = 0; l < lives; l++) {
            all.append(" moths ").append(d.moths(l, 3, 0)).append('/').append(d.moths(l, 3, 1));
        }
        all.append(" year ").append(d.year(7, 40, 0)).append(',').append(d.year(7, 40, 1));
    }
}
