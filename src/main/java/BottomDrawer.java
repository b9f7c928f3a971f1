/**
 * A bottom drawer, filled by aunts for the lives a girl may come to live.
 * What each method answers is told by the numbered promises of DOC.md.
 *
 * No call makes an object or an array: every row is made in a constructor and
 * used again, for all calls of a run share one small room.
 */
public final class BottomDrawer {
    public static final int BAD = -1, NO = -2, FULL = -3, NONE = -4;

    private static final String START =
            "r24,6;t0,6,4;t1,5,2;t2,4,3;t3,8,5;t0,9,7;t2,3,1;l5,30,10;l3,50,5;l2,20,40;l0,60,60;n0,0;n0,2;n1,4;n1,0;n1,3;n2,1;n2,5;n3,4;n3,5;n3,3;";
    private static final int MOST_LETTERS = 200;
    private static final int FIRST_LETTER = 32, LAST_LETTER = 126;
    private static final int MOST_THINGS = 8, MOST_LIVES = 6;
    private static final int FLANNEL = 1, LINEN = 2, FOLDING = 3;
    private static final int MOST_COINS = 999;
    private static final int MOST_UNDONE = 8, MOST_KEPT = 2, MOST_SEEN = 8;
    private static final int MOST_YEARS_AHEAD = 20, MOST_YEARS_DRAWN = 40;
    private static final int LAST_DRAWS = 9999;

    private final char[] text;
    private int length;
    private final Reader reader;
    private final Counsel counsel;
    private Plan laid;
    private Plan spare;
    private final Hour now;
    private final Hour then;
    private final Pile past;
    private final Pile kept;
    private int seen;
    private int seenToBe;
    private int seenNotToBe;

    public BottomDrawer() {
        text = new char[MOST_LETTERS];
        length = 0;
        Reader startReader = new Reader();
        Plan start = new Plan();
        char[] letters = START.toCharArray();
        startReader.firstFault(letters, letters.length, start);
        Hour firstHour = new Hour();
        firstHour.begin(start);
        reader = startReader;
        counsel = new Counsel();
        laid = start;
        spare = new Plan();
        now = firstHour;
        then = new Hour();
        past = new Pile(MOST_UNDONE);
        kept = new Pile(MOST_KEPT);
    }

    // ---- drawers

    public int write(int letter) {
        if (letter < FIRST_LETTER || letter > LAST_LETTER) {
            return BAD;
        }
        if (length < 0 || length >= text.length) {
            return FULL;
        }
        text[length] = (char) letter;
        length++;
        return length;
    }

    public int wipe() {
        int was = length;
        length = 0;
        return was;
    }

    public int fault() {
        return reader.firstFault(text, length, spare);
    }

    public int lay() {
        // Read into the spare plan, so that a text that can't be laid leaves the laid one as it is.
        if (reader.firstFault(text, length, spare) != NONE || spare.things == 0 || spare.lives == 0) {
            return NO;
        }
        Plan read = spare;
        spare = laid;
        laid = read;
        now.begin(laid);
        past.empty();
        kept.empty();
        forget();
        return laid.lives;
    }

    public int thing(int t, int what) {
        if (!laid.isThing(t)) {
            return BAD;
        }
        switch (what) {
            case 0: return at(laid.kinds, t);
            case 1: return at(laid.sizes, t);
            case 2: return at(laid.costs, t);
            case 3: return bit(has(now.drawer, t));
            case 4: return bit(now.canPutBy(laid, t));
            case 5: return laid.livesThatNeed(t);
            default: return BAD;
        }
    }

    public int life(int l, int what) {
        if (!laid.isLife(l)) {
            return BAD;
        }
        switch (what) {
            case 0: return at(laid.chances, l);
            case 1: return at(laid.hers, l);
            case 2: return at(laid.his, l);
            case 3: return at(laid.needs, l);
            case 4: return bit(laid.canBe(l, now.drawer));
            case 5: return bit(has(now.lived, l));
            default: return BAD;
        }
    }

    public int room() {
        return laid.roomTaken(now.drawer);
    }

    public int worth(int set, int part) {
        if (!laid.isSetOfThings(set) || !isPart(part)) {
            return BAD;
        }
        return worthPart(set, part);
    }

    // ---- years

    public int put(int t) {
        if (!laid.isThing(t)) {
            return BAD;
        }
        if (!now.canPutBy(laid, t)) {
            return NO;
        }
        past.add(now);
        now.putBy(laid, t);
        return roomLeft();
    }

    public int out(int t) {
        if (!laid.isThing(t)) {
            return BAD;
        }
        if (!has(now.drawer, t)) {
            return NO;
        }
        past.add(now);
        now.takeOut(t);
        return roomLeft();
    }

    public int live(int l) {
        if (!laid.isLife(l)) {
            return BAD;
        }
        if (!now.canBeLived(laid, l)) {
            return NO;
        }
        past.add(now);
        return now.liveLife(laid, l);
    }

    public int pass(int n) {
        if (n < 1 || n > MOST_YEARS_AHEAD) {
            return BAD;
        }
        past.add(now);
        now.goBy(laid, n);
        return now.coins;
    }

    public int undo() {
        if (past.height == 0) {
            return NO;
        }
        past.takeTop(now);
        return past.height;
    }

    // ---- what to put by

    public int best(int n, int what) {
        if (n < 0 || n > MOST_YEARS_AHEAD || what < 0 || what > 2) {
            return BAD;
        }
        int set = counsel.bestSet(laid, now, n);
        return what == 0 ? set : worthPart(set, what - 1);
    }

    public int cover(int set, int what) {
        if (!laid.isSetOfLives(set) || what < 0 || what > 2) {
            return BAD;
        }
        int things = counsel.fewestThings(laid, set);
        if (what == 0) {
            return things;
        }
        return what == 1 ? Integer.bitCount(things) : laid.roomTaken(things);
    }

    public int serves() {
        return counsel.servesMost(laid, now.drawer);
    }

    public int row(int k) {
        if (k < 0 || k > MOST_LIVES) {
            return BAD;
        }
        return counsel.longestRow(laid, now, k);
    }

    public int bargain() {
        return counsel.bargains(laid, laid.livesBy(now.drawer));
    }

    public int talk(int what) {
        if (what < 0 || what > 1) {
            return BAD;
        }
        int lives = laid.livesBy(now.drawer);
        return what == 0 ? counsel.leftByTalk(laid, lives) : counsel.struckFirst(laid, lives);
    }

    // ---- what was seen

    public int see(int t, boolean was) {
        if (!laid.isThing(t)) {
            return BAD;
        }
        if (seen >= MOST_SEEN) {
            return FULL;
        }
        if (was) {
            seenToBe |= 1 << t;
        } else {
            seenNotToBe |= 1 << t;
        }
        seen++;
        return seen;
    }

    public int forget() {
        int were = seen;
        seen = 0;
        seenToBe = 0;
        seenNotToBe = 0;
        return were;
    }

    public int meant() {
        int lives = 0;
        for (int l = 0; l < laid.lives; l++) {
            int needs = at(laid.needs, l);
            if ((seenToBe & ~needs) == 0 && (seenNotToBe & needs) == 0) {
                lives |= 1 << l;
            }
        }
        return lives;
    }

    // ---- moths, years

    public int moths(int l, int x, int part) {
        if (!laid.isLife(l) || x < 0 || x > 10 || !isPart(part)) {
            return BAD;
        }
        int below = power(10, Integer.bitCount(now.drawer));
        return lowestTerms(chanceBehindMoths(l, x), below, part);
    }

    public int year(int z, int n, int what) {
        if (z < 0 || z > LAST_DRAWS || n < 1 || n > MOST_YEARS_DRAWN || what < 0 || what > 1) {
            return BAD;
        }
        then.copy(now);
        for (int k = 0; k < n; k++) {
            then.goByDraw(laid, draw(z, k));
        }
        return what == 0 ? Integer.bitCount(then.lived) : then.coins;
    }

    public int keep() {
        if (kept.height >= MOST_KEPT) {
            return FULL;
        }
        kept.add(now);
        return kept.height;
    }

    public int back() {
        if (kept.height == 0) {
            return NO;
        }
        kept.takeTop(now);
        past.empty();
        return kept.height;
    }

    public int count(int what) {
        switch (what) {
            case 0: return laid.things;
            case 1: return laid.lives;
            case 2: return laid.room;
            case 3: return Integer.bitCount(now.drawer);
            case 4: return Integer.bitCount(laid.livesBy(now.drawer));
            case 5: return Integer.bitCount(now.lived);
            case 6: return now.coins;
            case 7: return now.years;
            case 8: return seen;
            case 9: return past.height;
            case 10: return kept.height;
            case 11: return length;
            default: return BAD;
        }
    }

    private int roomLeft() {
        return laid.room - laid.roomTaken(now.drawer);
    }

    private int worthPart(int set, int part) {
        return lowestTerms(laid.gain(set), laid.chanceOfAll(), part);
    }

    /** Of ten by as many as there are THINGS in the DRAWER: how often the LIFE CAN BE. */
    private int chanceBehindMoths(int l, int x) {
        int all = Integer.bitCount(now.drawer);
        int sum = 0;
        for (int set = 0; set <= now.drawer; set++) {
            if ((set & ~now.drawer) == 0 && laid.canBe(l, set)) {
                int stay = Integer.bitCount(set);
                sum += power(10 - x, stay) * power(x, all - stay);
            }
        }
        return sum;
    }

    private static int draw(int z, int k) {
        long x = 7919L * z + 6151L * k + 1;
        return (int) (x * x % 65521);
    }

    private static boolean isPart(int part) {
        return part == 0 || part == 1;
    }

    private static int bit(boolean is) {
        return is ? 1 : 0;
    }

    private static boolean has(int set, int place) {
        return (set >> place & 1) == 1;
    }

    /** What stands at a place of a row; where the row has no such place, 0, and no index is used. */
    private static int at(int[] row, int place) {
        return place >= 0 && place < row.length ? row[place] : 0;
    }

    private static void store(int[] row, int place, int number) {
        if (place >= 0 && place < row.length) {
            row[place] = number;
        }
    }

    private static int power(int base, int times) {
        int product = 1;
        for (int i = 0; i < times; i++) {
            product *= base;
        }
        return product;
    }

    /** Above (part 0) or below (part 1) of a fraction in lowest terms; one with 0 below is 0. */
    private static int lowestTerms(int above, int below, int part) {
        int common = commonDivisor(above, below);
        if (below == 0 || common == 0) {
            return part;
        }
        return part == 0 ? above / common : below / common;
    }

    private static int commonDivisor(int a, int b) {
        int greater = a;
        int less = b;
        // Euclid's rests fall below one half in two steps, so that an int needs fewer than 64.
        for (int i = 0; i < 64 && less != 0; i++) {
            int rest = greater % less;
            greater = less;
            less = rest;
        }
        return greater;
    }

    /** What a text tells: the DRAWER's ROOM, the AUNTS' COINS a year, THINGS and LIVES. */
    private static final class Plan {
        int room;
        int allowance;
        int things;
        int lives;
        int flannel;
        int linen;
        int folding;
        final int[] kinds;
        final int[] sizes;
        final int[] costs;
        final int[] chances;
        final int[] hers;
        final int[] his;
        final int[] needs;

        Plan() {
            kinds = new int[MOST_THINGS];
            sizes = new int[MOST_THINGS];
            costs = new int[MOST_THINGS];
            chances = new int[MOST_LIVES];
            hers = new int[MOST_LIVES];
            his = new int[MOST_LIVES];
            needs = new int[MOST_LIVES];
        }

        void begin() {
            room = 20;
            allowance = 5;
            things = 0;
            lives = 0;
            flannel = 0;
            linen = 0;
            folding = 0;
        }

        boolean tellRoom(int size, int coins) {
            if (size < 1 || size > 99 || coins > 20) {
                return false;
            }
            room = size;
            allowance = coins;
            return true;
        }

        boolean tellThing(int kind, int size, int cost) {
            if (things >= MOST_THINGS || kind > FOLDING || size < 1 || size > 20 || cost > 20) {
                return false;
            }
            store(kinds, things, kind);
            store(sizes, things, size);
            store(costs, things, cost);
            flannel |= bit(kind == FLANNEL) << things;
            linen |= bit(kind == LINEN) << things;
            folding |= bit(kind == FOLDING) << things;
            things++;
            return true;
        }

        boolean tellLife(int chance, int toHer, int toHim) {
            if (lives >= MOST_LIVES || chance > 9 || toHer > 60 || toHim > 60) {
                return false;
            }
            store(chances, lives, chance);
            store(hers, lives, toHer);
            store(his, lives, toHim);
            store(needs, lives, 0);
            lives++;
            return true;
        }

        boolean tellNeed(int l, int t) {
            if (!isLife(l) || !isThing(t)) {
                return false;
            }
            store(needs, l, at(needs, l) ^ 1 << t);
            return true;
        }

        boolean isThing(int t) {
            return t >= 0 && t < things;
        }

        boolean isLife(int l) {
            return l >= 0 && l < lives;
        }

        boolean isSetOfThings(int set) {
            return set >= 0 && set < 1 << things;
        }

        boolean isSetOfLives(int set) {
            return set >= 0 && set < 1 << lives;
        }

        int allThings() {
            return (1 << things) - 1;
        }

        int allLives() {
            return (1 << lives) - 1;
        }

        int livesThatNeed(int t) {
            int found = 0;
            for (int l = 0; l < lives; l++) {
                found |= bit(has(at(needs, l), t)) << l;
            }
            return found;
        }

        int roomTaken(int set) {
            boolean folds = Integer.bitCount(set & folding) >= 2;
            int taken = 0;
            for (int t = 0; t < things; t++) {
                if (has(set, t)) {
                    int size = at(sizes, t);
                    taken += folds && has(folding, t) ? size / 2 : size;
                }
            }
            return taken;
        }

        int price(int set) {
            int coins = 0;
            for (int t = 0; t < things; t++) {
                if (has(set, t)) {
                    coins += at(costs, t);
                }
            }
            return coins;
        }

        boolean canBe(int l, int set) {
            int need = at(needs, l);
            int missing = Integer.bitCount(need & ~set);
            return missing == 0 || missing == 1 && (set & flannel & ~need) != 0;
        }

        int livesBy(int set) {
            int found = 0;
            for (int l = 0; l < lives; l++) {
                found |= bit(canBe(l, set)) << l;
            }
            return found;
        }

        /** WORTH times the P of all LIVES: sets are compared by it without a division. */
        int gain(int set) {
            int sum = 0;
            for (int l = 0; l < lives; l++) {
                if (canBe(l, set)) {
                    sum += at(chances, l) * at(hers, l);
                }
            }
            return sum;
        }

        int chanceOfAll() {
            int sum = 0;
            for (int l = 0; l < lives; l++) {
                sum += at(chances, l);
            }
            return sum;
        }

        /** The LINEN that goes when all of a set of LIVES are LIVED, in whatever order. */
        int linenOf(int set) {
            int gone = 0;
            for (int l = 0; l < lives; l++) {
                if (has(set, l)) {
                    gone |= at(needs, l) & linen;
                }
            }
            return gone;
        }
    }

    /** Reads a text's ITEMS into a plan. */
    private static final class Reader {
        private final int[] numbers;
        private int amount;

        Reader() {
            numbers = new int[3];
        }

        /** The place of the first ITEM that is not so, counted from 0; NONE where all are. */
        int firstFault(char[] letters, int length, Plan plan) {
            plan.begin();
            int place = 0;
            for (int i = 0; i < MOST_LETTERS && place < length; i++) {
                int behind = readNumbers(letters, length, place + 1);
                if (behind == NONE || !tellItem(letter(letters, length, place), plan)) {
                    return place;
                }
                place = behind;
            }
            return NONE;
        }

        /** Reads numbers up to and with their ; and answers the place behind it, or NONE. */
        private int readNumbers(char[] letters, int length, int from) {
            int place = from;
            for (int k = 0; k < numbers.length; k++) {
                int number = figure(letters, length, place);
                if (number == NONE) {
                    return NONE;
                }
                place++;
                int second = figure(letters, length, place);
                if (second != NONE) {
                    number = 10 * number + second;
                    place++;
                }
                store(numbers, k, number);
                amount = k + 1;
                int sign = letter(letters, length, place);
                place++;
                if (sign == ';') {
                    return place;
                }
                if (sign != ',') {
                    return NONE;
                }
            }
            return NONE;
        }

        private boolean tellItem(int sign, Plan plan) {
            int a = at(numbers, 0);
            int b = at(numbers, 1);
            int c = at(numbers, 2);
            switch (sign) {
                case 'r': return amount == 2 && plan.tellRoom(a, b);
                case 't': return amount == 3 && plan.tellThing(a, b, c);
                case 'l': return amount == 3 && plan.tellLife(a, b, c);
                case 'n': return amount == 2 && plan.tellNeed(a, b);
                default: return false;
            }
        }

        private static int figure(char[] letters, int length, int place) {
            int sign = letter(letters, length, place);
            return sign >= '0' && sign <= '9' ? sign - '0' : NONE;
        }

        private static int letter(char[] letters, int length, int place) {
            return place >= 0 && place < length && place < letters.length ? letters[place] : NONE;
        }
    }

    /** How things stand at a time. */
    private static final class Hour {
        int drawer;
        int lived;
        int coins;
        int years;

        void begin(Plan plan) {
            drawer = 0;
            lived = 0;
            coins = plan.allowance;
            years = 0;
        }

        void copy(Hour other) {
            drawer = other.drawer;
            lived = other.lived;
            coins = other.coins;
            years = other.years;
        }

        boolean canPutBy(Plan plan, int t) {
            return !has(drawer, t) && at(plan.costs, t) <= coins
                    && plan.roomTaken(drawer | 1 << t) <= plan.room;
        }

        void putBy(Plan plan, int t) {
            drawer |= 1 << t;
            coins -= at(plan.costs, t);
        }

        void takeOut(int t) {
            drawer &= ~(1 << t);
        }

        boolean canBeLived(Plan plan, int l) {
            return !has(lived, l) && plan.canBe(l, drawer);
        }

        /** Answers the THINGS that go by it. */
        int liveLife(Plan plan, int l) {
            int gone = drawer & plan.linenOf(1 << l);
            drawer &= ~gone;
            lived |= 1 << l;
            return gone;
        }

        void goBy(Plan plan, int n) {
            coins = coinsBehind(plan, n);
            years += n;
        }

        int coinsBehind(Plan plan, int n) {
            return Math.min(MOST_COINS, coins + n * plan.allowance);
        }

        void goByDraw(Plan plan, int draw) {
            if (plan.things > 0) {
                putOrTakeOut(plan, draw % plan.things, draw / 8 % 3 == 0);
            }
            if (plan.lives > 0) {
                int l = draw / 32 % plan.lives;
                if (draw / 256 % 2 == 0 && canBeLived(plan, l)) {
                    liveLife(plan, l);
                }
            }
            goBy(plan, 1);
        }

        private void putOrTakeOut(Plan plan, int t, boolean mayTakeOut) {
            if (canPutBy(plan, t)) {
                putBy(plan, t);
            } else if (mayTakeOut) {
                takeOut(t);
            }
        }
    }

    /** Hours one upon the other; where there is no place for one more the lowest falls out. */
    private static final class Pile {
        int height;
        private final int limit;
        private final int[] drawers;
        private final int[] lived;
        private final int[] coins;
        private final int[] years;

        Pile(int most) {
            int size = most < 1 ? 1 : most;
            limit = size;
            drawers = new int[size];
            lived = new int[size];
            coins = new int[size];
            years = new int[size];
        }

        void empty() {
            height = 0;
        }

        void add(Hour hour) {
            if (height >= limit) {
                dropLowest();
            }
            store(drawers, height, hour.drawer);
            store(lived, height, hour.lived);
            store(coins, height, hour.coins);
            store(years, height, hour.years);
            height++;
        }

        void takeTop(Hour hour) {
            if (height > 0) {
                height--;
                hour.drawer = at(drawers, height);
                hour.lived = at(lived, height);
                hour.coins = at(coins, height);
                hour.years = at(years, height);
            }
        }

        private void dropLowest() {
            for (int i = 1; i < height; i++) {
                store(drawers, i - 1, at(drawers, i));
                store(lived, i - 1, at(lived, i));
                store(coins, i - 1, at(coins, i));
                store(years, i - 1, at(years, i));
            }
            height--;
        }
    }

    /** What to put by, and which life: answers found by looking through all sets. */
    private static final class Counsel {
        private final int[] longest;
        private final int[] left;

        Counsel() {
            longest = new int[1 << MOST_LIVES];
            left = new int[1 << MOST_LIVES];
        }

        int bestSet(Plan plan, Hour hour, int n) {
            int coins = hour.coinsBehind(plan, n);
            int most = 0;
            int mostGain = plan.gain(0);
            for (int set = 1; set <= plan.allThings(); set++) {
                if (plan.roomTaken(set) <= plan.room && plan.price(set & ~hour.drawer) <= coins) {
                    int gain = plan.gain(set);
                    if (gain > mostGain || gain == mostGain && isFewer(set, most)) {
                        most = set;
                        mostGain = gain;
                    }
                }
            }
            return most;
        }

        private static boolean isFewer(int set, int other) {
            return Integer.bitCount(set) < Integer.bitCount(other);
        }

        int fewestThings(Plan plan, int lives) {
            // By all THINGS every LIFE CAN BE, so that there is always one.
            int fewest = plan.allThings();
            for (int set = 0; set < plan.allThings(); set++) {
                if (isFewer(set, fewest) && (lives & ~plan.livesBy(set)) == 0) {
                    fewest = set;
                }
            }
            return fewest;
        }

        int servesMost(Plan plan, int drawer) {
            int most = NONE;
            int least = 0;
            for (int t = 0; t < plan.things; t++) {
                if (has(drawer, t)) {
                    int gain = plan.gain(drawer & ~(1 << t));
                    if (most == NONE || gain < least) {
                        most = t;
                        least = gain;
                    }
                }
            }
            return most;
        }

        int longestRow(Plan plan, Hour hour, int k) {
            findLongest(plan, hour);
            int most = at(longest, 0);
            if (k == 0) {
                return most;
            }
            if (k > most) {
                return NONE;
            }
            int lives = 0;
            int latest = NONE;
            for (int i = 0; i < k; i++) {
                latest = nextInRow(plan, hour, lives);
                lives |= 1 << latest;
            }
            return latest;
        }

        /** What is in the DRAWER depends on which LIVES were LIVED, not on their order: a row by sets will do. */
        private void findLongest(Plan plan, Hour hour) {
            for (int lives = plan.allLives(); lives >= 0; lives--) {
                int most = 0;
                for (int l = 0; l < plan.lives; l++) {
                    if (canFollow(plan, hour, lives, l)) {
                        most = Math.max(most, 1 + at(longest, lives | 1 << l));
                    }
                }
                store(longest, lives, most);
            }
        }

        private int nextInRow(Plan plan, Hour hour, int lives) {
            for (int l = 0; l < plan.lives; l++) {
                if (canFollow(plan, hour, lives, l)
                        && 1 + at(longest, lives | 1 << l) == at(longest, lives)) {
                    return l;
                }
            }
            return NONE;
        }

        private static boolean canFollow(Plan plan, Hour hour, int lives, int l) {
            return !has(lives | hour.lived, l) && plan.canBe(l, hour.drawer & ~plan.linenOf(lives));
        }

        int bargains(Plan plan, int lives) {
            int found = 0;
            for (int l = 0; l < plan.lives; l++) {
                if (has(lives, l) && !isLeftForAnother(plan, lives, l)) {
                    found |= 1 << l;
                }
            }
            return found;
        }

        private static boolean isLeftForAnother(Plan plan, int lives, int l) {
            for (int other = 0; other < plan.lives; other++) {
                int forHer = at(plan.hers, other) - at(plan.hers, l);
                int forHim = at(plan.his, other) - at(plan.his, l);
                if (has(lives, other) && forHer >= 0 && forHim >= 0 && forHer + forHim > 0) {
                    return true;
                }
            }
            return false;
        }

        int leftByTalk(Plan plan, int lives) {
            if (lives == 0) {
                return NONE;
            }
            findLeft(plan, lives);
            return at(left, lives);
        }

        int struckFirst(Plan plan, int lives) {
            if (Integer.bitCount(lives) < 2) {
                return NONE;
            }
            findLeft(plan, lives);
            return strike(plan, lives, plan.hers);
        }

        /** For each set that the talk may come to, from few LIVES to many: which is left of it. */
        private void findLeft(Plan plan, int lives) {
            for (int l = 0; l < plan.lives; l++) {
                store(left, 1 << l, l);
            }
            int all = Integer.bitCount(lives);
            for (int set = 1; set <= lives; set++) {
                int size = Integer.bitCount(set);
                if (size > 1 && (set & ~lives) == 0) {
                    int[] values = (all - size) % 2 == 0 ? plan.hers : plan.his;
                    int struck = strike(plan, set, values);
                    store(left, set, at(left, set & ~(1 << struck)));
                }
            }
        }

        private int strike(Plan plan, int set, int[] values) {
            int struck = NONE;
            int most = 0;
            for (int l = 0; l < plan.lives; l++) {
                if (has(set, l)) {
                    int value = at(values, at(left, set & ~(1 << l)));
                    if (struck == NONE || value > most) {
                        struck = l;
                        most = value;
                    }
                }
            }
            return struck;
        }
    }
}
