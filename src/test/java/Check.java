/** What the tests share: counting wrong answers, and drawers of a told text. */
final class Check {
    private final String test;
    private int wrong = 0;
    private int asked = 0;

    Check(String test) {
        this.test = test;
    }

    void due(String call, long got, long want) {
        asked++;
        if (got != want) {
            wrong++;
            System.out.println(test + ": " + call + " answered " + got + ", due is " + want);
        }
    }

    void same(String call, String got, String want) {
        asked++;
        if (!got.equals(want)) {
            wrong++;
            System.out.println(test + ": " + call + " is\n  " + got + ", due is\n  " + want);
        }
    }

    void end() {
        System.out.println(test + ": " + asked + " asked, " + wrong + " wrong");
        if (wrong != 0 || asked == 0) {
            System.exit(1);
        }
    }

    static BottomDrawer written(String text) {
        BottomDrawer d = new BottomDrawer();
        write(d, text);
        return d;
    }

    static void write(BottomDrawer d, String text) {
        for (int i = 0; i < text.length(); i++) {
            d.write(text.charAt(i));
        }
    }

    static BottomDrawer laid(String text) {
        BottomDrawer d = written(text);
        if (d.lay() < 0) {
            throw new IllegalStateException("the test's own text can't be laid: " + text);
        }
        return d;
    }

    static String times(String text, int n) {
        StringBuilder all = new StringBuilder();
        for (int i = 0; i < n; i++) {
            all.append(text);
        }
        return all.toString();
    }

    /** All that can be asked without a change, in one text. */
    static String look(BottomDrawer d) {
        StringBuilder all = new StringBuilder();
        for (int what = 0; what <= 11; what++) {
            all.append(d.count(what)).append(' ');
        }
        all.append("fault ").append(d.fault()).append(" room ").append(d.room());
        for (int t = 0; t < d.count(0); t++) {
            all.append(" t");
            for (int what = 0; what <= 5; what++) {
                all.append(d.thing(t, what)).append(',');
            }
        }
        for (int l = 0; l < d.count(1); l++) {
            all.append(" l");
            for (int what = 0; what <= 5; what++) {
                all.append(d.life(l, what)).append(',');
            }
        }
        return all.append(" meant ").append(d.meant()).toString();
    }
}
