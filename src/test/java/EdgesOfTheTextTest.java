/**
 * THE TEXT at its edges: promises 1 to 5, with all that "What it is" tells of a TEXT, and LAID.
 * Above each test stand the document's words that it holds the class to.
 */
public final class EdgesOfTheTextTest {
    private static final Check CHECK = new Check("EdgesOfTheTextTest");
    private static final int NONE = BottomDrawer.NONE;
    private static final String START = "r24,6;t0,6,4;t1,5,2;t2,4,3;t3,8,5;t0,9,7;t2,3,1;l5,30,10;l3,50,5;l2,20,40;"
            + "l0,60,60;n0,0;n0,2;n1,4;n1,0;n1,3;n2,1;n2,5;n3,4;n3,5;n3,3;";
    private static final String LEAST = "t0,1,0;l0,0,0;";

    public static void main(String[] args) {
        atFirst();
        lettersAsInAscii();
        letters200AtMost();
        fullText();
        fullAndNoLetter();
        wipe();
        letterOfAnItem();
        asManyNumbers();
        partedByCommas();
        semicolonBehindTheLast();
        drawer();
        drawerNotTold();
        drawerToldLast();
        things();
        things8AtMost();
        lives();
        lives6AtMost();
        needs();
        bothToldAhead();
        toldOnceMore();
        firstFault();
        faultAtTheEnd();
        faultAsksOnly();
        laid();
        notLaid();
        laidAnother();
        laidAfresh();
        CHECK.end();
    }

    private static void fault(String text, int want) {
        CHECK.due("fault of " + text, Check.written(text).fault(), want);
    }

    /** "At first it is YEAR 0, the AUNTS have A COINS, the DRAWER is empty"; "(.. at first r24,6;t0,6,4; ..)". */
    private static void atFirst() {
        BottomDrawer d = new BottomDrawer();
        BottomDrawer same = Check.laid(START);
        CHECK.due("letters of THE TEXT, new", d.count(11), 0);
        CHECK.due("COINS, new", d.count(6), 6);
        same.wipe();
        CHECK.same("a new object", Check.look(d), Check.look(same));
        CHECK.due("wipe, new", d.wipe(), 0);
        Edges fresh = new Edges(CHECK, x -> { });
        fresh.refused("fault, new", x -> x.fault(), NONE);
        fresh.refused("lay, new", x -> x.lay(), BottomDrawer.NO);
        fresh.refused("undo, new", x -> x.undo(), BottomDrawer.NO);
        fresh.refused("back, new", x -> x.back(), BottomDrawer.NO);
        fresh.refused("forget, new", x -> x.forget(), 0);
        fresh.refused("serves, new", x -> x.serves(), NONE);
    }

    /** "A letter (32 to 126, as in ASCII) comes behind THE TEXT". */
    private static void lettersAsInAscii() {
        Edges some = new Edges(CHECK, d -> {
            Edges.busy(d);
            Check.write(d, LEAST);
        });
        some.only("write", (d, letter) -> d.write(letter), 32, 126);
        some.due("write(32)", d -> d.write(32), LEAST.length() + 1);
        some.due("write(126)", d -> d.write(126), LEAST.length() + 1);
        // Each of them stands in THE TEXT as it is: none but ; ends the ITEM.
        for (int letter = 32; letter <= 126; letter++) {
            BottomDrawer d = Check.written("t0,1,0;l0,0,0");
            d.write(letter);
            CHECK.due("fault of t0,1,0;l0,0,0 with letter " + letter, d.fault(),
                    letter == ';' ? NONE : 7);
        }
    }

    /** "A TEXT is letters (200 at most)"; "FULL". */
    private static void letters200AtMost() {
        BottomDrawer d = new BottomDrawer();
        for (int i = 1; i <= 200; i++) {
            CHECK.due("write no. " + i, d.write(i % 2 == 0 ? 126 : 32), i);
        }
        CHECK.due("write no. 201", d.write(32), BottomDrawer.FULL);
        CHECK.due("write no. 202", d.write(126), BottomDrawer.FULL);
        CHECK.due("letters of THE TEXT, full", d.count(11), 200);
        CHECK.due("wipe, full", d.wipe(), 200);
        CHECK.due("write, wiped", d.write('t'), 1);
        CHECK.due("letters of THE TEXT, wiped", d.count(11), 1);
    }

    /** The 200th letter is one of THE TEXT, the 201st is none. */
    private static void fullText() {
        CHECK.due("letters of the full text", Edges.FULL_TEXT.length(), 200);
        Edges full = new Edges(CHECK, d -> Check.write(d, Edges.FULL_TEXT));
        full.due("fault, full", d -> d.fault(), NONE);
        full.due("lay, full", d -> d.lay(), 6);
        for (int letter = 32; letter <= 126; letter += 47) {
            int of = letter;
            full.refused("write(" + letter + "), full", d -> d.write(of), BottomDrawer.FULL);
        }
        // Where the 200th letter is missing, the last ITEM is not so, and nothing can be LAID.
        String without = Edges.FULL_TEXT.substring(0, 199);
        fault(without, without.lastIndexOf('n'));
        CHECK.due("lay of 199 letters of it", Check.written(without).lay(), BottomDrawer.NO);
        // What is refused as the 201st does not end the ITEM that the 200th leaves open.
        String open = Check.times("r9,9;", 39) + "r9,99";
        BottomDrawer d = Check.written(open);
        CHECK.due("; as letter 201", d.write(';'), BottomDrawer.FULL);
        CHECK.due("fault behind it", d.fault(), 195);
    }

    /** BAD ahead of FULL: "Of several the first in this order". */
    private static void fullAndNoLetter() {
        Edges full = new Edges(CHECK, d -> Check.write(d, Edges.FULL_TEXT));
        full.refused("write(31), full", d -> d.write(31), BottomDrawer.BAD);
        full.refused("write(127), full", d -> d.write(127), BottomDrawer.BAD);
        for (int letter : Edges.FAR) {
            if (letter < 32 || letter > 126) {
                full.refused("write(" + letter + "), full", d -> d.write(letter), BottomDrawer.BAD);
            }
        }
    }

    /** "THE TEXT is empty: how long it was." */
    private static void wipe() {
        BottomDrawer d = Check.laid(LEAST);
        d.put(0);
        String before = Check.look(d).replace(" 14 fault", " 0 fault");
        CHECK.due("wipe", d.wipe(), LEAST.length());
        CHECK.same("behind wipe", Check.look(d), before);
        CHECK.due("wipe of nothing", d.wipe(), 0);
        CHECK.due("fault of nothing", d.fault(), NONE);
        CHECK.due("lay of nothing", d.lay(), BottomDrawer.NO);
        CHECK.due("THINGS as LAID", d.count(0), 1);
        // Nothing of what stood there comes back.
        Check.write(d, "t0,1,0");
        CHECK.due("fault behind wipe and less", d.fault(), 0);
        CHECK.due("write behind wipe", d.write(';'), 7);
        CHECK.due("fault behind wipe and as much", d.fault(), NONE);
        CHECK.due("lay of a THING alone", d.lay(), BottomDrawer.NO);
    }

    /** "ITEMS .. each a letter": r, t, l, n and no other, no capital. */
    private static void letterOfAnItem() {
        String ahead = "t0,1,0;t0,1,0;l1,1,1;l1,1,1;";
        for (char letter = 32; letter <= 126; letter++) {
            boolean two = letter == 'r' || letter == 'n';
            boolean three = letter == 't' || letter == 'l';
            fault(ahead + letter + "1,1;", two ? NONE : ahead.length());
            fault(ahead + letter + "1,1,1;", three ? NONE : ahead.length());
        }
        fault(ahead + "1,1;", ahead.length());
        fault(ahead + ";", ahead.length());
        fault(ahead + "rr1,1;", ahead.length());
        fault(ahead + "tt1,1,1;", ahead.length());
    }

    /** rR,A tK,S,C lP,V,U nL,T: no number more, none fewer. */
    private static void asManyNumbers() {
        String ahead = "t0,1,0;t0,1,0;l1,1,1;l1,1,1;";
        String[] numbers = {"", "1", "1,1", "1,1,1", "1,1,1,1", "1,1,1,1,1"};
        for (int many = 0; many < numbers.length; many++) {
            fault(ahead + "r" + numbers[many] + ";", many == 2 ? NONE : ahead.length());
            fault(ahead + "t" + numbers[many] + ";", many == 3 ? NONE : ahead.length());
            fault(ahead + "l" + numbers[many] + ";", many == 3 ? NONE : ahead.length());
            fault(ahead + "n" + numbers[many] + ";", many == 2 ? NONE : ahead.length());
        }
    }

    /** "numbers .. parted by ,". */
    private static void partedByCommas() {
        for (char sign = 32; sign <= 126; sign++) {
            fault("r9" + sign + "9;", sign == ',' ? NONE : 0);
            fault("t0,9" + sign + "9;", sign == ',' ? NONE : 0);
        }
        fault("r,9,9;", 0);
        fault("r9,,9;", 0);
        fault("r9,9,;", 0);
        fault("r,9;", 0);
        fault("r9,;", 0);
        fault("r,;", 0);
    }

    /** "and a ; behind the last one". */
    private static void semicolonBehindTheLast() {
        for (char sign = 32; sign <= 126; sign++) {
            boolean figure = sign >= '0' && sign <= '9';
            fault("r9,1" + sign, sign == ';' ? NONE : 0);
            fault("r9,1" + sign + ";", figure ? NONE : sign == ';' ? 5 : 0);
        }
        fault("r9,9", 0);
        fault("r9,9r9,9;", 0);
        fault("r9,9;;", 5);
        fault("r9,9; ", 5);
        fault("r9,9; r9,9;", 5);
        fault(" r9,9;", 0);
    }

    /** Of the numbers that can stand at # only low to high, of one or two figures, are so. */
    private static void numbers(String ahead, String item, int low, int high) {
        int place = ahead.length();
        for (int number = 0; number <= 99; number++) {
            int want = number >= low && number <= high ? NONE : place;
            fault(ahead + item.replace("#", Integer.toString(number)), want);
            if (number <= 9) {
                fault(ahead + item.replace("#", "0" + number), want);
                fault(ahead + item.replace("#", "00" + number), place);
            }
        }
        String[] none = {"", "000", "001", "010", "100", "256", "-1", "+1", " 1", "1 ", "0x1", "1.", "a", "/", ":"};
        for (String number : none) {
            fault(ahead + item.replace("#", number), place);
        }
    }

    /** "rR,A the DRAWER has ROOM R (1 to 99); the AUNTS have A (0 to 20) COINS more each year". */
    private static void drawer() {
        numbers("", "r#,5;", 1, 99);
        numbers("", "r20,#;", 0, 20);
        numbers(LEAST, "r#,20;", 1, 99);
        numbers(LEAST, "r99,#;", 0, 20);
        for (int room = 1; room <= 99; room++) {
            CHECK.due("ROOM of r" + room, Check.laid("r" + room + ",5;" + LEAST).count(2), room);
        }
        for (int coins = 0; coins <= 20; coins++) {
            BottomDrawer d = Check.laid("r20," + coins + ";" + LEAST);
            CHECK.due("COINS at first of " + coins, d.count(6), coins);
            CHECK.due("COINS behind a YEAR of " + coins, d.pass(1), 2 * coins);
        }
    }

    /** "(20, 5 without ..)". */
    private static void drawerNotTold() {
        BottomDrawer d = Check.laid("r7,9;" + LEAST);
        d.wipe();
        Edges.lay(d, LEAST);
        CHECK.due("ROOM without", d.count(2), 20);
        CHECK.due("COINS without", d.count(6), 5);
        CHECK.due("COINS behind a YEAR without", d.pass(1), 10);
    }

    /** "(.. of several such the last one counts)". */
    private static void drawerToldLast() {
        drawerToldLast("r1,0;r99,20;" + LEAST, 99, 20);
        drawerToldLast("r99,20;" + LEAST + "r1,0;", 1, 0);
        drawerToldLast("r1,1;t0,20,0;r2,2;l0,0,0;r3,3;n0,0;r4,4;", 4, 4);
        // Each of several must be so, also one that does not count.
        fault("r0,5;r20,5;" + LEAST, 0);
        fault("r20,5;r20,21;" + LEAST, 6);
    }

    private static void drawerToldLast(String text, int room, int coins) {
        BottomDrawer d = Check.laid(text);
        CHECK.due("ROOM of " + text, d.count(2), room);
        CHECK.due("COINS of " + text, d.count(6), coins);
        CHECK.due("COINS behind a YEAR of " + text, d.pass(1), 2 * coins);
    }

    /** "a THING of KIND K (0 PLAIN, .. 3 FOLDING), which takes S (1 to 20) of ROOM, costs C (0 to 20) COINS". */
    private static void things() {
        numbers("", "t#,1,0;", 0, 3);
        numbers("", "t0,#,0;", 1, 20);
        numbers("", "t0,1,#;", 0, 20);
        numbers(LEAST, "t#,20,20;", 0, 3);
        numbers(LEAST, "t3,#,20;", 1, 20);
        numbers(LEAST, "t3,20,#;", 0, 20);
        for (int kind = 0; kind <= 3; kind++) {
            CHECK.due("KIND " + kind, Check.laid("t" + kind + ",1,0;l0,0,0;").thing(0, 0), kind);
        }
        for (int size = 1; size <= 20; size++) {
            CHECK.due("S " + size, Check.laid("t0," + size + ",0;l0,0,0;").thing(0, 1), size);
        }
        for (int cost = 0; cost <= 20; cost++) {
            CHECK.due("C " + cost, Check.laid("t0,1," + cost + ";l0,0,0;").thing(0, 2), cost);
        }
    }

    /** "8 at most, 0, 1, ..". */
    private static void things8AtMost() {
        for (int many = 1; many <= 8; many++) {
            String text = "l0,0,0;" + Check.times("t1,1,1;", many - 1) + "t3,2,20;";
            fault(text, NONE);
            BottomDrawer d = Check.laid(text);
            CHECK.due("THINGS of " + many, d.count(0), many);
            CHECK.due("KIND of the last of " + many, d.thing(many - 1, 0), 3);
            CHECK.due("no THING behind the last of " + many, d.thing(many, 0), BottomDrawer.BAD);
        }
        fault("l0,0,0;" + Check.times("t1,1,1;", 9), 7 + 56);
        fault("l0,0,0;" + Check.times("t1,1,1;", 8) + "r9,9;t1,1,1;r9,9;", 7 + 56 + 5);
        fault(Check.times("t1,1,1;", 28), 56);
        notLaid(Check.times("t1,1,1;", 9) + "l0,0,0;");
    }

    /** "a LIFE, likely by P (0 to 9), worth V (0 to 60) to her, U (0 to 60) to him". */
    private static void lives() {
        numbers("", "l#,0,0;", 0, 9);
        numbers("", "l0,#,0;", 0, 60);
        numbers("", "l0,0,#;", 0, 60);
        numbers(LEAST, "l#,60,60;", 0, 9);
        numbers(LEAST, "l9,#,60;", 0, 60);
        numbers(LEAST, "l9,60,#;", 0, 60);
        for (int chance = 0; chance <= 9; chance++) {
            CHECK.due("P " + chance, Check.laid("t0,1,0;l" + chance + ",0,0;").life(0, 0), chance);
        }
        for (int worth = 0; worth <= 60; worth++) {
            CHECK.due("V " + worth, Check.laid("t0,1,0;l0," + worth + ",0;").life(0, 1), worth);
            CHECK.due("U " + worth, Check.laid("t0,1,0;l0,0," + worth + ";").life(0, 2), worth);
        }
    }

    /** "6 at most, 0, 1, ..". */
    private static void lives6AtMost() {
        for (int many = 1; many <= 6; many++) {
            String text = "t0,1,0;" + Check.times("l1,1,1;", many - 1) + "l2,3,4;";
            fault(text, NONE);
            BottomDrawer d = Check.written(text);
            CHECK.due("lay of " + many + " LIVES", d.lay(), many);
            CHECK.due("LIVES of " + many, d.count(1), many);
            CHECK.due("U of the last of " + many, d.life(many - 1, 2), 4);
            CHECK.due("no LIFE behind the last of " + many, d.life(many, 0), BottomDrawer.BAD);
        }
        fault("t0,1,0;" + Check.times("l1,1,1;", 7), 7 + 42);
        fault("t0,1,0;" + Check.times("l1,1,1;", 6) + "r9,9;l1,1,1;r9,9;", 7 + 42 + 5);
        fault(Check.times("l1,1,1;", 28), 42);
        notLaid("t0,1,0;" + Check.times("l1,1,1;", 7));
    }

    /** "nL,T LIFE L NEEDS THING T": such as there are. */
    private static void needs() {
        for (int many = 1; many <= 6; many++) {
            numbers("t0,1,0;" + Check.times("l1,1,1;", many), "n#,0;", 0, many - 1);
        }
        for (int many = 1; many <= 8; many++) {
            numbers("l1,1,1;" + Check.times("t0,1,0;", many), "n0,#;", 0, many - 1);
        }
        BottomDrawer d = Check.laid(Check.times("t0,1,0;", 8) + Check.times("l1,1,1;", 6) + "n0,0;n5,7;n05,00;");
        CHECK.due("NEEDS of LIFE 0", d.life(0, 3), 1);
        CHECK.due("NEEDS of LIFE 4", d.life(4, 3), 0);
        CHECK.due("NEEDS of LIFE 5", d.life(5, 3), 128 + 1);
    }

    /** "(both told ahead ..)". */
    private static void bothToldAhead() {
        fault("n0,0;" + LEAST, 0);
        fault("t0,1,0;n0,0;l0,0,0;", 7);
        fault("l0,0,0;n0,0;t0,1,0;", 7);
        fault("l0,0,0;t0,1,0;n0,0;", NONE);
        fault(LEAST + "n0,1;t0,1,0;", 14);
        fault(LEAST + "t0,1,0;n0,1;", NONE);
        fault(LEAST + "n1,0;l0,0,0;", 14);
        fault(LEAST + "l0,0,0;n1,0;", NONE);
        notLaid("n0,0;" + LEAST);
        notLaid(LEAST + "n0,1;t0,1,0;");
    }

    /** "(.. told once more it does not, told again it does, and so on)". */
    private static void toldOnceMore() {
        for (int many = 0; many <= 25; many++) {
            BottomDrawer d = Check.laid("t0,1,0;" + LEAST + "l0,0,0;n0,1;n1,0;" + Check.times("n0,0;", many));
            CHECK.due("NEEDS told " + many + " times", d.life(0, 3), 2 + many % 2);
            CHECK.due("NEEDED as told " + many + " times", d.thing(0, 5), 2 + many % 2);
            CHECK.due("NEEDS of the other LIFE", d.life(1, 3), 1);
        }
    }

    /** "FAULT: the place of the first letter of the first ITEM that is not so"; "NONE". */
    private static void firstFault() {
        fault("", NONE);
        fault("x", 0);
        fault("r9,9;x", 5);
        fault("r9,9;x;y;", 5);
        fault("r9,9;r0,9;r9,21;", 5);
        fault("r9,9;r9,9;r9,9x;", 10);
        fault("r99,20;r1,0;t4,1,0;", 12);
        fault("t0,1,0;t0,0,0;n0,0;", 7);
        // An ITEM that is not so tells nothing; those behind it are not looked at.
        fault("t0,1,0;l0,0,0;t0,1,0x;n0,1;", 14);
    }

    /** A FAULT at each of the last places that there are, of a TEXT of up to 200 letters. */
    private static void faultAtTheEnd() {
        fault(Check.times("r9,9;", 40), NONE);
        fault(Check.times("r9,9;", 39) + "r9,9", 195);
        fault(Check.times("r9,9;", 39) + "r9,99", 195);
        fault(Check.times("r9,9;", 38) + "r99,9;" + "r9,9", 196);
        fault(Check.times("r9,9;", 38) + "r99,20;" + "r9,", 197);
        fault(Check.times("r9,9;", 37) + "r99,20;r09,9;" + "r9", 198);
        fault(Check.times("r9,9;", 37) + "r99,20;r99,20;" + "r", 199);
        fault(Check.times("r9,9;", 37) + "r99,20;r99,20;" + ";", 199);
    }

    /** A FAULT is looked for and nothing else: what is LAID stays, and each time it is the same. */
    private static void faultAsksOnly() {
        String[] texts = {"", LEAST, "x", "r1,0;t3,9,9;l9,9,9;l9,9,9;n1,0;", "t1,1,1;t1,1,1;n0,0;"};
        for (String text : texts) {
            Edges edges = new Edges(CHECK, d -> {
                Edges.busy(d);
                Check.write(d, text);
            });
            edges.unchanged("fault of " + text, d -> d.fault());
            edges.due("fault again of " + text, d -> d.fault() - d.fault(), 0);
        }
    }

    /** "LAID is a TEXT without FAULT, of a LIFE and a THING at least"; "how many LIVES". */
    private static void laid() {
        CHECK.due("lay of the least", Check.written(LEAST).lay(), 1);
        CHECK.due("lay of the least, turned", Check.written("l0,0,0;t0,1,0;").lay(), 1);
        CHECK.due("lay of the most", Check.written(Edges.FULL_TEXT).lay(), 6);
        BottomDrawer most = Check.laid(Edges.FULL_TEXT);
        CHECK.due("THINGS of the most", most.count(0), 8);
        CHECK.due("ROOM of the most", most.count(2), 99);
        CHECK.due("COINS of the most", most.count(6), 20);
        CHECK.due("letters of the most", most.count(11), 200);
        CHECK.due("NEEDS of the last of the most", most.life(5, 3), 16 + 64 + 128);
    }

    /** "(NO else ..)": and then all is as it was. */
    private static void notLaid() {
        notLaid("");
        notLaid("t0,1,0;");
        notLaid("l0,0,0;");
        notLaid("r20,5;");
        notLaid("r20,5;t0,1,0;t0,1,0;");
        notLaid("r20,5;l0,0,0;l0,0,0;");
        notLaid(LEAST + "x");
        notLaid(LEAST + "n0,1;");
        notLaid(LEAST + "t0,1,0");
        notLaid(LEAST + "r0,5;");
        notLaid("x" + LEAST);
    }

    private static void notLaid(String text) {
        Edges edges = new Edges(CHECK, d -> {
            Edges.busy(d);
            Check.write(d, text);
        });
        edges.refused("lay of " + text, d -> d.lay(), BottomDrawer.NO);
    }

    /** Of what was LAID ahead nothing is left: neither KINDS nor NEEDS, nor how many there were. */
    private static void laidAnother() {
        String[] kinds = {"t1,9,0;", "t2,9,0;", "t3,9,0;"};
        for (String kind : kinds) {
            String ahead = "r99,0;" + Check.times(kind, 8) + Check.times("l9,9,9;", 6) + "n0,0;n0,1;n0,2;n1,0;n5,7;";
            BottomDrawer d = Check.laid(ahead);
            d.fault();
            d.lay();
            d.wipe();
            Edges.lay(d, "t0,6,0;t0,4,0;t0,2,0;l1,1,1;n0,0;n0,1;");
            CHECK.due("THINGS, laid behind " + kind, d.count(0), 3);
            CHECK.due("LIVES, laid behind " + kind, d.count(1), 1);
            CHECK.due("NEEDS, laid behind " + kind, d.life(0, 3), 3);
            CHECK.due("put(0), laid behind " + kind, d.put(0), 14);
            CHECK.due("put(2), laid behind " + kind, d.put(2), 12);
            CHECK.due("CAN BE, laid behind " + kind, d.count(4), 0);
            CHECK.due("put(1), laid behind " + kind, d.put(1), 8);
            CHECK.due("live(0), laid behind " + kind, d.live(0), 0);
            for (int lives = 1; lives <= 6; lives++) {
                for (int things = 1; things <= 8; things++) {
                    laidAnother(ahead, Check.times("t0,6,0;", things) + Check.times("l1,1,1;", lives) + "n0,0;");
                }
            }
        }
    }

    private static void laidAnother(String ahead, String text) {
        CHECK.same(text + " laid behind " + ahead, Edges.whole(d -> {
            Edges.lay(d, ahead);
            d.fault();
            d.lay();
            d.wipe();
            Edges.lay(d, text);
            d.put(0);
        }), Edges.whole(d -> {
            Edges.lay(d, text);
            d.put(0);
        }));
    }

    /** "nothing SEEN, UNDONE, KEPT; THE TEXT stays", and all is as at first, also when the same is LAID again. */
    private static void laidAfresh() {
        BottomDrawer d = new BottomDrawer();
        Edges.busy(d);
        CHECK.due("SEEN ahead of lay", d.count(8), 8);
        CHECK.due("can be UNDONE ahead of lay", d.count(9), 8);
        CHECK.due("KEPT ahead of lay", d.count(10), 2);
        Edges.lay(d, START);
        CHECK.same("laid behind much", Check.look(d), Check.look(Check.laid(START)));
        CHECK.due("YEARS, laid", d.count(7), 0);
        CHECK.due("undo, laid", d.undo(), BottomDrawer.NO);
        CHECK.due("back, laid", d.back(), BottomDrawer.NO);
        CHECK.due("forget, laid", d.forget(), 0);
        CHECK.due("letters of THE TEXT, laid", d.count(11), START.length());
        Edges.busy(d);
        CHECK.due("SEEN ahead of lay again", d.count(8), 8);
        CHECK.due("lay again", d.lay(), 4);
        CHECK.same("laid again", Check.look(d), Check.look(Check.laid(START)));
        CHECK.due("see, laid again", d.see(0, true), 1);
        CHECK.due("keep, laid again", d.keep(), 1);
    }
}
