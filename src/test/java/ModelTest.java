import java.util.Random;

/** Many runs of drawn calls (each of 512 at most): the class answers as the model of the document does. */
public final class ModelTest {
    private static final Check CHECK = new Check("ModelTest");
    private static final int RUNS = 3000;
    private static final int CALLS = 512;
    private static final String SIGNS = "rtln0123456789,; RxT:/";

    private final Random random;
    private final BottomDrawer d = new BottomDrawer();
    private final Model m = new Model();
    private final StringBuilder calls = new StringBuilder();
    private int made = 0;

    private ModelTest(long seed) {
        random = new Random(seed);
    }

    public static void main(String[] args) {
        for (long seed = 0; seed < RUNS; seed++) {
            new ModelTest(seed).run(seed);
        }
        CHECK.end();
    }

    private void run(long seed) {
        if (seed % 8 != 0) {
            layDrawn();
        }
        // One round makes three calls at most, but layDrawn.
        while (made + 3 <= CALLS) {
            int kind = random.nextInt(100);
            if (kind == 0 && made + 220 < CALLS) {
                layDrawn();
            } else if (kind < 4) {
                writeCall();
            } else if (kind < 50) {
                yearsCall();
            } else {
                askCall();
            }
        }
    }

    private void due(String call, int got, int want) {
        made++;
        calls.append(call).append(' ');
        CHECK.due(got == want ? call : calls.toString(), got, want);
    }

    private int drawn(int from, int to) {
        return from + random.nextInt(to - from + 1);
    }

    /** Mostly a number that is told, at times one beside or far off. */
    private int number(int to) {
        int kind = random.nextInt(40);
        if (kind == 0) {
            return random.nextBoolean() ? -1 : to + 1;
        }
        if (kind == 1) {
            return random.nextInt();
        }
        return drawn(0, to);
    }

    private void layDrawn() {
        due("wipe()", d.wipe(), m.wipe());
        String text = drawnText();
        for (int i = 0; i < text.length(); i++) {
            due("write(" + (int) text.charAt(i) + ")", d.write(text.charAt(i)), m.write(text.charAt(i)));
        }
        due("fault()", d.fault(), m.fault());
        due("lay()", d.lay(), m.lay());
    }

    private String drawnText() {
        StringBuilder text = new StringBuilder();
        int things = drawn(1, 8);
        int lives = drawn(1, 6);
        if (random.nextInt(8) != 0) {
            text.append('r').append(drawn(random.nextBoolean() ? 20 : 1, 60)).append(',').append(drawn(0, 20)).append(';');
        }
        for (int t = 0; t < things; t++) {
            text.append('t').append(drawn(0, 3)).append(',').append(drawn(1, random.nextBoolean() ? 9 : 20)).append(',')
                    .append(drawn(0, random.nextBoolean() ? 4 : 20)).append(';');
        }
        int worthTo = random.nextBoolean() ? 60 : 4;
        for (int l = 0; l < lives; l++) {
            text.append('l').append(drawn(0, 9)).append(',').append(drawn(0, worthTo)).append(',')
                    .append(drawn(0, worthTo)).append(';');
        }
        int needs = drawn(0, 3 * lives);
        for (int i = 0; i < needs && text.length() < 196; i++) {
            text.append('n').append(drawn(0, lives - 1)).append(',').append(drawn(0, things - 1)).append(';');
        }
        if (random.nextInt(6) == 0) {
            spoil(text);
        }
        return text.length() > 200 ? text.substring(0, 200) : text.toString();
    }

    private void spoil(StringBuilder text) {
        int at = random.nextInt(text.length());
        char sign = SIGNS.charAt(random.nextInt(SIGNS.length()));
        int how = random.nextInt(3);
        if (how == 0) {
            text.setCharAt(at, sign);
        } else if (how == 1) {
            text.insert(at, sign);
        } else {
            text.deleteCharAt(at);
        }
    }

    private void writeCall() {
        int kind = random.nextInt(4);
        if (kind == 0) {
            int letter = random.nextBoolean() ? number(140) : SIGNS.charAt(random.nextInt(SIGNS.length()));
            due("write(" + letter + ")", d.write(letter), m.write(letter));
        } else if (kind == 1) {
            due("fault()", d.fault(), m.fault());
        } else if (kind == 2 && random.nextInt(4) == 0) {
            due("lay()", d.lay(), m.lay());
        } else if (random.nextInt(4) == 0) {
            due("wipe()", d.wipe(), m.wipe());
        }
    }

    private void yearsCall() {
        int t = number(m.count(0) - 1);
        int l = number(m.count(1) - 1);
        switch (random.nextInt(16)) {
            case 0: case 1: case 2: case 3: case 4: case 5:
                due("put(" + t + ")", d.put(t), m.put(t));
                break;
            case 6: case 7:
                due("out(" + t + ")", d.out(t), m.out(t));
                break;
            case 8: case 9:
                due("live(" + l + ")", d.live(l), m.live(l));
                break;
            case 10: case 11:
                int n = random.nextBoolean() ? number(3) : number(20);
                due("pass(" + n + ")", d.pass(n), m.pass(n));
                break;
            case 12: case 13:
                due("undo()", d.undo(), m.undo());
                break;
            case 14:
                due("keep()", d.keep(), m.keep());
                break;
            default:
                due("back()", d.back(), m.back());
                break;
        }
        due("count(6)", d.count(6), m.count(6));
        due("count(3)", d.count(3), m.count(3));
    }

    private void askCall() {
        int t = number(m.count(0) - 1);
        int l = number(m.count(1) - 1);
        int what = number(6);
        int part = number(1);
        switch (random.nextInt(17)) {
            case 0:
                due("thing(" + t + ", " + what + ")", d.thing(t, what), m.thing(t, what));
                break;
            case 1:
                due("life(" + l + ", " + what + ")", d.life(l, what), m.life(l, what));
                break;
            case 2:
                due("room()", d.room(), m.room());
                break;
            case 3:
                int things = number((1 << m.count(0)) - 1);
                due("worth(" + things + ", " + part + ")", d.worth(things, part), m.worth(things, part));
                break;
            case 4:
                int years = random.nextBoolean() ? number(3) : number(20);
                int of = number(2);
                due("best(" + years + ", " + of + ")", d.best(years, of), m.best(years, of));
                break;
            case 5: case 6:
                int lives = number((1 << m.count(1)) - 1);
                int which = number(2);
                due("cover(" + lives + ", " + which + ")", d.cover(lives, which), m.cover(lives, which));
                break;
            case 7:
                due("serves()", d.serves(), m.serves());
                break;
            case 8: case 9:
                due("row(" + what + ")", d.row(what), m.row(what));
                break;
            case 10:
                due("bargain()", d.bargain(), m.bargain());
                break;
            case 11:
                due("talk(" + part + ")", d.talk(part), m.talk(part));
                break;
            case 12:
                boolean was = random.nextBoolean();
                due("see(" + t + ", " + was + ")", d.see(t, was), m.see(t, was));
                break;
            case 13:
                if (random.nextInt(4) == 0) {
                    due("forget()", d.forget(), m.forget());
                }
                due("meant()", d.meant(), m.meant());
                break;
            case 14:
                int x = number(10);
                due("moths(" + l + ", " + x + ", " + part + ")", d.moths(l, x, part), m.moths(l, x, part));
                break;
            case 15:
                int z = number(9999);
                int n = number(40);
                due("year(" + z + ", " + n + ", " + part + ")", d.year(z, n, part), m.year(z, n, part));
                break;
            default:
                int count = number(11);
                due("count(" + count + ")", d.count(count), m.count(count));
                break;
        }
    }
}
