import java.math.BigInteger;
import java.util.ArrayList;
import java.util.Collections;
import java.util.List;
import java.util.TreeSet;
import java.util.regex.Matcher;
import java.util.regex.Pattern;

/**
 * The document's words once more, put as plainly as can be and in another way than in the class:
 * sets are sets, rows are tried one by one, talks are talked to their end. Slow, and only for tests.
 */
final class Model {
    static final int BAD = -1, NO = -2, FULL = -3, NONE = -4;

    private static final Pattern ITEM = Pattern.compile("([rtln])([0-9][0-9]?)((?:,[0-9][0-9]?)*);");

    /** A LIFE or a THING is a row of what is told of it; what is NEEDED stands apart. */
    private static final class Told {
        int room = 20;
        int coinsEach = 5;
        final List<int[]> things = new ArrayList<>();
        final List<int[]> lives = new ArrayList<>();
        final List<TreeSet<Integer>> needs = new ArrayList<>();
        int fault = NONE;
    }

    private static final class Standing {
        TreeSet<Integer> in = new TreeSet<>();
        TreeSet<Integer> lived = new TreeSet<>();
        int coins;
        int years;

        Standing copy() {
            Standing other = new Standing();
            other.in.addAll(in);
            other.lived.addAll(lived);
            other.coins = coins;
            other.years = years;
            return other;
        }
    }

    private String text = "";
    private Told told;
    private Standing now = new Standing();
    private final List<Standing> before = new ArrayList<>();
    private final List<Standing> kept = new ArrayList<>();
    private final List<int[]> seen = new ArrayList<>();

    Model() {
        told = read("r24,6;t0,6,4;t1,5,2;t2,4,3;t3,8,5;t0,9,7;t2,3,1;l5,30,10;l3,50,5;l2,20,40;l0,60,60;"
                + "n0,0;n0,2;n1,4;n1,0;n1,3;n2,1;n2,5;n3,4;n3,5;n3,3;");
        now.coins = told.coinsEach;
    }

    private static Told read(String text) {
        Told told = new Told();
        Matcher item = ITEM.matcher(text);
        int place = 0;
        while (place < text.length()) {
            item.region(place, text.length());
            if (!item.lookingAt()) {
                told.fault = place;
                return told;
            }
            String[] all = (item.group(2) + item.group(3)).split(",");
            int[] n = new int[all.length];
            for (int i = 0; i < n.length; i++) {
                n[i] = Integer.parseInt(all[i]);
            }
            if (!tell(told, item.group(1), n)) {
                told.fault = place;
                return told;
            }
            place = item.end();
        }
        return told;
    }

    private static boolean tell(Told told, String kind, int[] n) {
        if (n.length != (kind.equals("r") || kind.equals("n") ? 2 : 3)) {
            return false;
        }
        if (kind.equals("r")) {
            told.room = n[0];
            told.coinsEach = n[1];
            return n[0] >= 1 && n[1] <= 20;
        }
        if (kind.equals("t")) {
            told.things.add(n);
            return told.things.size() <= 8 && n[0] <= 3 && n[1] >= 1 && n[1] <= 20 && n[2] <= 20;
        }
        if (kind.equals("l")) {
            told.lives.add(n);
            told.needs.add(new TreeSet<>());
            return told.lives.size() <= 6 && n[0] <= 9 && n[1] <= 60 && n[2] <= 60;
        }
        if (n[0] >= told.lives.size() || n[1] >= told.things.size()) {
            return false;
        }
        if (!told.needs.get(n[0]).remove(n[1])) {
            told.needs.get(n[0]).add(n[1]);
        }
        return true;
    }

    private boolean noThing(int t) {
        return t < 0 || t >= told.things.size();
    }

    private boolean noLife(int l) {
        return l < 0 || l >= told.lives.size();
    }

    private static int bits(Iterable<Integer> set) {
        int bits = 0;
        for (int i : set) {
            bits += 1 << i;
        }
        return bits;
    }

    private static TreeSet<Integer> set(int bits) {
        TreeSet<Integer> set = new TreeSet<>();
        for (int i = 0; i < 31; i++) {
            if ((bits & 1 << i) != 0) {
                set.add(i);
            }
        }
        return set;
    }

    private int kind(int t) {
        return told.things.get(t)[0];
    }

    private int takes(TreeSet<Integer> set) {
        int folding = 0;
        for (int t : set) {
            folding += kind(t) == 3 ? 1 : 0;
        }
        int takes = 0;
        for (int t : set) {
            int size = told.things.get(t)[1];
            takes += kind(t) == 3 && folding > 1 ? Math.floorDiv(size, 2) : size;
        }
        return takes;
    }

    private boolean can(int l, TreeSet<Integer> set) {
        TreeSet<Integer> missing = new TreeSet<>(told.needs.get(l));
        missing.removeAll(set);
        if (missing.isEmpty()) {
            return true;
        }
        boolean spareFlannel = false;
        for (int t : set) {
            spareFlannel |= kind(t) == 1 && !told.needs.get(l).contains(t);
        }
        return missing.size() == 1 && spareFlannel;
    }

    private TreeSet<Integer> can(TreeSet<Integer> set) {
        TreeSet<Integer> lives = new TreeSet<>();
        for (int l = 0; l < told.lives.size(); l++) {
            if (can(l, set)) {
                lives.add(l);
            }
        }
        return lives;
    }

    /** Above and below. */
    private long[] worthOf(TreeSet<Integer> set) {
        long above = 0;
        long below = 0;
        for (int l = 0; l < told.lives.size(); l++) {
            below += told.lives.get(l)[0];
            above += can(l, set) ? told.lives.get(l)[0] * told.lives.get(l)[1] : 0;
        }
        return below == 0 ? new long[] {0, 1} : lowest(above, below);
    }

    private static long[] lowest(long above, long below) {
        long gcd = BigInteger.valueOf(above).gcd(BigInteger.valueOf(below)).longValue();
        return new long[] {above / gcd, below / gcd};
    }

    private static int compare(long[] a, long[] b) {
        return Long.compare(a[0] * b[1], b[0] * a[1]);
    }

    int write(int letter) {
        if (letter < 32 || letter > 126) {
            return BAD;
        }
        if (text.length() == 200) {
            return FULL;
        }
        text += (char) letter;
        return text.length();
    }

    int wipe() {
        int was = text.length();
        text = "";
        return was;
    }

    int fault() {
        return read(text).fault;
    }

    int lay() {
        Told next = read(text);
        if (next.fault != NONE || next.things.isEmpty() || next.lives.isEmpty()) {
            return NO;
        }
        told = next;
        now = new Standing();
        now.coins = told.coinsEach;
        before.clear();
        kept.clear();
        seen.clear();
        return told.lives.size();
    }

    int thing(int t, int what) {
        if (noThing(t) || what < 0 || what > 5) {
            return BAD;
        }
        if (what < 3) {
            return told.things.get(t)[what];
        }
        if (what == 3) {
            return now.in.contains(t) ? 1 : 0;
        }
        if (what == 4) {
            return canPut(now, t) ? 1 : 0;
        }
        TreeSet<Integer> lives = new TreeSet<>();
        for (int l = 0; l < told.lives.size(); l++) {
            if (told.needs.get(l).contains(t)) {
                lives.add(l);
            }
        }
        return bits(lives);
    }

    int life(int l, int what) {
        if (noLife(l) || what < 0 || what > 5) {
            return BAD;
        }
        if (what < 3) {
            return told.lives.get(l)[what];
        }
        if (what == 3) {
            return bits(told.needs.get(l));
        }
        return (what == 4 ? can(l, now.in) : now.lived.contains(l)) ? 1 : 0;
    }

    int room() {
        return takes(now.in);
    }

    int worth(int set, int part) {
        if (set < 0 || set >= 1 << told.things.size() || part < 0 || part > 1) {
            return BAD;
        }
        return (int) worthOf(set(set))[part];
    }

    private boolean canPut(Standing s, int t) {
        TreeSet<Integer> with = new TreeSet<>(s.in);
        return with.add(t) && told.things.get(t)[2] <= s.coins && takes(with) <= told.room;
    }

    private void putBy(Standing s, int t) {
        s.in.add(t);
        s.coins -= told.things.get(t)[2];
    }

    private boolean canLive(Standing s, int l) {
        return !s.lived.contains(l) && can(l, s.in);
    }

    private TreeSet<Integer> liveIt(Standing s, int l) {
        TreeSet<Integer> gone = new TreeSet<>();
        for (int t : told.needs.get(l)) {
            if (kind(t) == 2 && s.in.remove(t)) {
                gone.add(t);
            }
        }
        s.lived.add(l);
        return gone;
    }

    private void oneYear(Standing s) {
        s.coins += told.coinsEach;
        if (s.coins > 999) {
            s.coins = 999;
        }
        s.years++;
    }

    private void remember() {
        before.add(now.copy());
        if (before.size() > 8) {
            before.remove(0);
        }
    }

    int put(int t) {
        if (noThing(t)) {
            return BAD;
        }
        if (!canPut(now, t)) {
            return NO;
        }
        remember();
        putBy(now, t);
        return told.room - takes(now.in);
    }

    int out(int t) {
        if (noThing(t)) {
            return BAD;
        }
        if (!now.in.contains(t)) {
            return NO;
        }
        remember();
        now.in.remove(t);
        return told.room - takes(now.in);
    }

    int live(int l) {
        if (noLife(l)) {
            return BAD;
        }
        if (!canLive(now, l)) {
            return NO;
        }
        remember();
        return bits(liveIt(now, l));
    }

    int pass(int n) {
        if (n < 1 || n > 20) {
            return BAD;
        }
        remember();
        for (int i = 0; i < n; i++) {
            oneYear(now);
        }
        return now.coins;
    }

    int undo() {
        if (before.isEmpty()) {
            return NO;
        }
        now = before.remove(before.size() - 1);
        return before.size();
    }

    int best(int n, int what) {
        if (n < 0 || n > 20 || what < 0 || what > 2) {
            return BAD;
        }
        Standing later = now.copy();
        for (int i = 0; i < n; i++) {
            oneYear(later);
        }
        List<Integer> sets = new ArrayList<>();
        for (int set = 0; set < 1 << told.things.size(); set++) {
            int price = 0;
            for (int t : set(set)) {
                price += now.in.contains(t) ? 0 : told.things.get(t)[2];
            }
            if (takes(set(set)) <= told.room && price <= later.coins) {
                sets.add(set);
            }
        }
        Collections.sort(sets, (a, b) -> {
            int byWorth = compare(worthOf(set(b)), worthOf(set(a)));
            int bySize = Integer.compare(set(a).size(), set(b).size());
            return byWorth != 0 ? byWorth : bySize != 0 ? bySize : Integer.compare(a, b);
        });
        int best = sets.get(0);
        return what == 0 ? best : (int) worthOf(set(best))[what - 1];
    }

    int cover(int lives, int what) {
        if (lives < 0 || lives >= 1 << told.lives.size() || what < 0 || what > 2) {
            return BAD;
        }
        for (int size = 0; size <= told.things.size(); size++) {
            for (int set = 0; set < 1 << told.things.size(); set++) {
                TreeSet<Integer> things = set(set);
                if (things.size() == size && can(things).containsAll(set(lives))) {
                    return what == 0 ? set : what == 1 ? size : takes(things);
                }
            }
        }
        throw new IllegalStateException("there is always a cover");
    }

    int serves() {
        int serves = NONE;
        long[] least = null;
        for (int t : now.in) {
            TreeSet<Integer> without = new TreeSet<>(now.in);
            without.remove(t);
            long[] worth = worthOf(without);
            if (least == null || compare(worth, least) < 0) {
                serves = t;
                least = worth;
            }
        }
        return serves;
    }

    private List<Integer> rowFrom(Standing s) {
        List<Integer> longest = new ArrayList<>();
        for (int l = 0; l < told.lives.size(); l++) {
            if (canLive(s, l)) {
                Standing next = s.copy();
                liveIt(next, l);
                List<Integer> row = new ArrayList<>();
                row.add(l);
                row.addAll(rowFrom(next));
                if (row.size() > longest.size()) {
                    longest = row;
                }
            }
        }
        return longest;
    }

    int row(int k) {
        if (k < 0 || k > 6) {
            return BAD;
        }
        List<Integer> row = rowFrom(now);
        return k == 0 ? row.size() : k <= row.size() ? row.get(k - 1) : NONE;
    }

    int bargain() {
        TreeSet<Integer> found = new TreeSet<>();
        for (int l : can(now.in)) {
            boolean stands = true;
            for (int other : can(now.in)) {
                int[] a = told.lives.get(l);
                int[] b = told.lives.get(other);
                stands &= !(b[1] >= a[1] && b[2] >= a[2] && (b[1] > a[1] || b[2] > a[2]));
            }
            if (stands) {
                found.add(l);
            }
        }
        return bits(found);
    }

    /** Which is struck out next, and which is left in the end. */
    private int[] talkOf(TreeSet<Integer> lives, boolean she) {
        if (lives.size() == 1) {
            return new int[] {NONE, lives.first()};
        }
        int[] best = null;
        for (int l : lives) {
            TreeSet<Integer> rest = new TreeSet<>(lives);
            rest.remove(l);
            int end = talkOf(rest, !she)[1];
            int part = she ? 1 : 2;
            if (best == null || told.lives.get(end)[part] > told.lives.get(best[1])[part]) {
                best = new int[] {l, end};
            }
        }
        return best;
    }

    int talk(int what) {
        if (what < 0 || what > 1) {
            return BAD;
        }
        TreeSet<Integer> lives = can(now.in);
        return lives.isEmpty() ? NONE : talkOf(lives, true)[1 - what];
    }

    int see(int t, boolean was) {
        if (noThing(t)) {
            return BAD;
        }
        if (seen.size() == 8) {
            return FULL;
        }
        seen.add(new int[] {t, was ? 1 : 0});
        return seen.size();
    }

    int forget() {
        int were = seen.size();
        seen.clear();
        return were;
    }

    int meant() {
        TreeSet<Integer> lives = new TreeSet<>();
        for (int l = 0; l < told.lives.size(); l++) {
            boolean fits = true;
            for (int[] one : seen) {
                fits &= told.needs.get(l).contains(one[0]) == (one[1] == 1);
            }
            if (fits) {
                lives.add(l);
            }
        }
        return bits(lives);
    }

    /** By how many of ten, ten times ten, .. one can be, with the things of rest lost or not. */
    private BigInteger ways(int l, int x, List<Integer> rest, TreeSet<Integer> stays) {
        if (rest.isEmpty()) {
            return can(l, stays) ? BigInteger.ONE : BigInteger.ZERO;
        }
        List<Integer> fewer = rest.subList(1, rest.size());
        TreeSet<Integer> with = new TreeSet<>(stays);
        with.add(rest.get(0));
        return ways(l, x, fewer, stays).multiply(BigInteger.valueOf(x))
                .add(ways(l, x, fewer, with).multiply(BigInteger.valueOf(10 - x)));
    }

    int moths(int l, int x, int part) {
        if (noLife(l) || x < 0 || x > 10 || part < 0 || part > 1) {
            return BAD;
        }
        long above = ways(l, x, new ArrayList<>(now.in), new TreeSet<>()).longValueExact();
        return (int) lowest(above, BigInteger.TEN.pow(now.in.size()).longValueExact())[part];
    }

    int year(int z, int n, int what) {
        if (z < 0 || z > 9999 || n < 1 || n > 40 || what < 0 || what > 1) {
            return BAD;
        }
        Standing s = now.copy();
        for (int k = 0; k < n; k++) {
            BigInteger x = BigInteger.valueOf(7919).multiply(BigInteger.valueOf(z))
                    .add(BigInteger.valueOf(6151).multiply(BigInteger.valueOf(k))).add(BigInteger.ONE);
            int draw = x.multiply(x).mod(BigInteger.valueOf(65521)).intValueExact();
            int t = draw % told.things.size();
            if (canPut(s, t)) {
                putBy(s, t);
            } else if (draw / 8 % 3 == 0 && s.in.contains(t)) {
                s.in.remove(t);
            }
            int l = draw / 32 % told.lives.size();
            if (canLive(s, l) && draw / 256 % 2 == 0) {
                liveIt(s, l);
            }
            oneYear(s);
        }
        return what == 0 ? s.lived.size() : s.coins;
    }

    int keep() {
        if (kept.size() == 2) {
            return FULL;
        }
        kept.add(now.copy());
        return kept.size();
    }

    int back() {
        if (kept.isEmpty()) {
            return NO;
        }
        now = kept.remove(kept.size() - 1);
        before.clear();
        return kept.size();
    }

    int count(int what) {
        int[] counts = {told.things.size(), told.lives.size(), told.room, now.in.size(), can(now.in).size(),
            now.lived.size(), now.coins, now.years, seen.size(), before.size(), kept.size(), text.length()};
        return what < 0 || what >= counts.length ? BAD : counts[what];
    }
}
