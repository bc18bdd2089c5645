/** Boundary cases of OWN, of letters, of FAILING and MOVED (promises 21 to 23 and 34). */
public final class BoundsOfOriginTest {
    private static final int NONE = MadeWhere.NONE;
    private static final int[] FAR = {Integer.MIN_VALUE, -1000, Integer.MAX_VALUE};
    private static final Sheet sheet = new Sheet();
    private static MadeWhere x;

    public static void main(String[] args) {
        ownBounds();
        ownLand();
        ownGrown();
        ownWorth();
        ownDays();
        ownBeforeOthers();
        chain();
        letterBounds();
        lettersCut();
        lettersAtMost();
        lettersOfInts();
        lettersWhich();
        lettersOfPrices();
        failingBounds();
        failingPlaces();
        movedBounds();
        movedOnAllDays();
        movedMany();
        movedWebs();
        sheet.end();
    }

    private static void fresh(String sentence) {
        sheet.of(sentence);
        x = new MadeWhere();
    }

    private static int rule(int web, int from, String text) { return Sheet.rule(x, web, from, text); }

    /** Of so many of each of the batches. */
    private static int make(int land, int heading, int process, int price, int many, int... parts) {
        for (int i = 0; i < parts.length; i += 2) x.lay(parts[i], parts[i + 1]);
        return x.made(land, heading, process, price, many);
    }

    private static void ownBounds() {
        fresh("21: NONE: no such ones, it was told behind q");
        sheet.due(x.own(0, 0, 0), NONE);
        x.members(0, 1, 0);
        x.members(3, 1, 0);
        x.days(5);
        x.grown(0, 0, 1, 10);
        x.days(2);
        for (int web = 0; web < 4; web++) {
            boolean is = web % 3 == 0;
            sheet.due(x.own(0, web, 4), NONE);
            sheet.due(x.own(0, web, 5), is ? 1 : 0);
            sheet.due(x.own(0, web, 7), is ? 1 : 0);
            sheet.due(x.own(0, web, 8), NONE);
            sheet.due(x.own(0, web, -1), NONE);
            sheet.due(x.own(1, web, 7), NONE);
            sheet.due(x.own(-1, web, 7), NONE);
        }
        sheet.due(x.own(0, 4, 7), NONE);
        sheet.due(x.own(0, -1, 7), NONE);
        for (int n : FAR) {
            sheet.due(x.own(n, 0, 7), NONE);
            sheet.due(x.own(0, n, 7), NONE);
            sheet.due(x.own(0, 0, n), NONE);
        }
    }

    private static void ownLand() {
        fresh("21: its LAND must be a MEMBER");
        for (int land = 0; land < 8; land++) x.grown(land, 0, 1, 10);
        for (int land = 0; land < 8; land++) {
            x.members(0, 1 << land, 0);
            x.members(1, 255 - (1 << land), 0);
            for (int b = 0; b < 8; b++) {
                sheet.due(x.own(b, 0, 0), b == land ? 1 : 0);
                sheet.due(x.own(b, 1, 0), b == land ? 0 : 1);
            }
        }
        sheet.of("21: a MADE one's LAND, too");
        x.members(0, 2, 0);
        rule(0, 0, "r:1");
        sheet.due(make(0, 0, 0, 1, 1, 1, 1), 8);
        sheet.due(make(1, 0, 0, 1, 1, 0, 1), 9);
        sheet.due(x.own(8, 0, 0), 0);
        sheet.due(x.own(9, 0, 0), 1);
    }

    private static void ownGrown() {
        fresh("21: a GROWN one, if its PROOF is not UNDONE up to q");
        x.members(0, 1, 0);
        x.grown(0, 0, 1, 10);
        sheet.due(x.own(0, 0, 0), 1);
        x.days(3);
        x.undo(0);
        sheet.due(x.own(0, 0, 2), 1);
        sheet.due(x.own(0, 0, 3), 0);
        x.days(1);
        sheet.due(x.own(0, 0, 4), 0);
        x.grown(0, 0, 1, 10);
        x.undo(1);
        sheet.due(x.own(1, 0, 4), 0);
    }

    private static void ownWorth() {
        fresh("21: a MADE one, if WORTH of r is unlike 0");
        x.members(0, 1, 0);
        x.grown(0, 0, 1, 100);
        sheet.due(make(0, 0, 0, 1, 1, 0, 1), 1);
        sheet.due(x.own(1, 0, 0), 0);
        String[] texts = {"r:0", "r:1", "r:0-1", "s:1;d:1", "r:1-1", "r:99999*99999", "r:0-99999*99999", "r:1=2?1", "r:1/2", "r:c=0?1", "r:a-999", "r:a-1000"};
        int[] want = {0, 1, 1, 0, 0, 1, 1, 0, 0, 1, 1, 0};
        for (int i = 0; i < texts.length; i++) {
            sheet.due(rule(0, 0, texts[i]), i);
            sheet.due(x.own(1, 0, 0), want[i]);
        }
    }

    private static void ownDays() {
        fresh("21: MEMBERS and PROTOCOL of the BATCH's DAY, as known in q");
        x.days(10);
        x.grown(0, 0, 1, 100);
        make(0, 0, 0, 1, 1, 0, 1);
        rule(0, 0, "r:1");
        x.members(0, 1, 11);
        sheet.due(x.own(0, 0, 10), 0);
        x.members(0, 1, 10);
        sheet.due(x.own(0, 0, 10), 1);
        sheet.due(x.own(1, 0, 10), 1);
        rule(0, 11, "r:0");
        sheet.due(x.own(1, 0, 10), 1);
        x.days(1);
        rule(0, 10, "r:0");
        sheet.due(x.own(1, 0, 10), 1);
        sheet.due(x.own(1, 0, 11), 0);
        rule(0, 9, "r:1");
        sheet.due(x.own(1, 0, 11), 0);
        x.days(1);
        x.members(0, 0, 9);
        sheet.due(x.own(0, 0, 12), 1);
        x.members(0, 0, 10);
        sheet.due(x.own(0, 0, 11), 1);
        sheet.due(x.own(0, 0, 12), 0);
        sheet.due(x.own(1, 0, 12), 0);
    }

    private static void ownBeforeOthers() {
        fresh("21: as known in q, whatever was told behind it");
        for (int web = 0; web < 4; web++) x.members(web, 255, 0);
        for (int web = 0; web < 4; web++) rule(web, 0, "r:c=0?1");
        for (int b = 0; b < 6; b++) {
            if (b % 3 < 2) x.grown(0, 0, 1, 10); else make(0, 0, 0, 1, 1, b - 1, 1);
            x.days(2);
        }
        x.undo(1);
        x.days(1);
        for (int web = 0; web < 4; web++) {
            for (int b = 5; b >= 0; b--) {
                for (int q = 2 * b; q <= 13; q++) sheet.due(x.own(b, web, q), q >= 12 && (b == 1 || b == 2) ? 0 : 1);
                sheet.due(x.own(b, web, 2 * b), 1);
            }
            sheet.due(x.letter(2, web, 11, 'c'), 0);
            sheet.due(x.letter(2, web, 12, 'c'), 1);
        }
    }

    private static void chain() {
        fresh("21: 100 BATCHES, each made of the one before");
        x.members(0, 1, 0);
        rule(0, 0, "r:c=0?1");
        x.grown(0, 0, 1, 1);
        for (int b = 1; b < 100; b++) sheet.due(make(0, 0, 0, 1, 1, b - 1, 1), b);
        for (int b = 0; b < 100; b += 11) sheet.due(x.own(b, 0, 0), 1);
        sheet.due(x.failing(99, 0, 0), NONE);
        x.days(1);
        x.undo(0);
        for (int b = 0; b < 100; b += 11) {
            sheet.due(x.own(b, 0, 1), 0);
            sheet.due(x.own(b, 0, 0), 1);
        }
        sheet.due(x.failing(99, 0, 1), 0);
    }

    private static void letterBounds() {
        fresh("22: a letter of a MADE BATCH; NONE: likewise, GROWN, another letter");
        sheet.due(x.letter(0, 0, 0, 'a'), NONE);
        x.grown(0, 0, 1, 100);
        x.days(3);
        make(0, 42, 9, 1, 10, 0, 5);
        x.days(2);
        for (int letter = -1; letter <= 256; letter++) {
            long want = letter == 'a' || letter == 'n' ? 500 : letter == 'h' ? 42 : letter == 'p' ? 9 : letter == 'c' ? 1 : letter == 'b' || letter == 'o' ? 0 : NONE;
            sheet.due(x.letter(1, 0, 5, letter), want);
        }
        for (char letter : "anbochp".toCharArray()) {
            sheet.due(x.letter(0, 0, 5, letter), NONE);
            sheet.due(x.letter(1, 0, 2, letter), NONE);
            sheet.due(x.letter(1, 0, 3, letter) == NONE, false);
            sheet.due(x.letter(1, 0, 6, letter), NONE);
            sheet.due(x.letter(1, 0, -1, letter), NONE);
            sheet.due(x.letter(1, 4, 5, letter), NONE);
            sheet.due(x.letter(1, 3, 5, letter) == NONE, false);
            sheet.due(x.letter(1, -1, 5, letter), NONE);
            sheet.due(x.letter(2, 0, 5, letter), NONE);
            sheet.due(x.letter(-1, 0, 5, letter), NONE);
            sheet.due(x.letter(1, 0, 5, letter + 65536), NONE);
            sheet.due(x.letter(1, 0, 5, letter - 65536), NONE);
        }
        for (int n : FAR) {
            sheet.due(x.letter(n, 0, 5, 'a'), NONE);
            sheet.due(x.letter(1, n, 5, 'a'), NONE);
            sheet.due(x.letter(1, 0, n, 'a'), NONE);
            sheet.due(x.letter(1, 0, 5, n), NONE);
        }
    }

    private static void lettersCut() {
        fresh("22: in thousandths, cut, of PRICE times MANY");
        x.grown(0, 0, 1, 10000);
        make(0, 0, 0, 1, 1000, 0, 1);
        make(0, 0, 0, 1, 1001, 0, 1);
        make(0, 0, 0, 7, 143, 0, 1001);
        make(0, 0, 0, 7, 143, 0, 1000);
        make(0, 0, 0, 7, 143, 0, 2001);
        long[] want = {1, 0, 1000, 999, 1999};
        for (int i = 0; i < want.length; i++) {
            sheet.due(x.letter(i + 1, 0, 0, 'a'), want[i]);
            sheet.due(x.letter(i + 1, 0, 0, 'n'), want[i]);
            sheet.due(x.letter(i + 1, 0, 0, 'b'), want[i]);
        }
    }

    private static void lettersAtMost() {
        fresh("22: 10,000,000 at most");
        x.grown(0, 0, 10000, 10000);
        x.grown(0, 0, 1, 10000);
        x.grown(0, 0, 1, 10000);
        int below = make(0, 0, 0, 1, 1000, 0, 999, 1, 9999);
        int exact = make(0, 0, 0, 1, 1000, 0, 999, 2, 10000);
        int above = make(0, 0, 0, 1, 1000, 0, 1000, 1, 1);
        int far = make(0, 0, 0, 1, 1, 0, 7002);
        for (char letter : "anb".toCharArray()) {
            sheet.due(x.letter(below, 0, 0, letter), 9_999_999);
            sheet.due(x.letter(exact, 0, 0, letter), 10_000_000);
            sheet.due(x.letter(above, 0, 0, letter), 10_000_000);
            sheet.due(x.letter(far, 0, 0, letter), 10_000_000);
        }
        fresh("22: o, n and b are 10,000,000 at most, each");
        x.members(0, 3, 0);
        x.grown(1, 0, 10000, 10000);
        int abroad = make(0, 0, 0, 1, 1, 0, 10000);
        sheet.due(x.letter(abroad, 0, 0, 'o'), 10_000_000);
        sheet.due(x.letter(abroad, 0, 0, 'n'), 0);
        sheet.due(x.letter(abroad, 1, 0, 'o'), 0);
        sheet.due(x.letter(abroad, 1, 0, 'n'), 10_000_000);
        sheet.due(x.letter(abroad, 1, 0, 'b'), 10_000_000);
    }

    private static void lettersOfInts() {
        fresh("22: coins that pass an int's range");
        for (int i = 0; i < 6; i++) x.grown(i % 2, 9, 10000, 10000);
        int batch = make(0, 9, 0, 10000, 10000, 0, 10000, 1, 10000, 2, 10000, 3, 10000, 4, 10000, 5, 10000);
        x.members(0, 3, 0);
        sheet.due(x.letter(batch, 0, 0, 'a'), 6000);
        sheet.due(x.letter(batch, 0, 0, 'o'), 3000);
        sheet.due(x.letter(batch, 1, 0, 'n'), 6000);
        sheet.due(x.letter(batch, 1, 0, 'b'), 6000);
        sheet.due(x.letter(batch, 1, 0, 'c'), 6);
        sheet.due(x.letter(batch, 0, 0, 'c'), 0);
        x.mend(batch, 100);
        sheet.due(x.letter(batch, 0, 0, 'a'), 600_000);
        x.mend(batch, 6);
        sheet.due(x.letter(batch, 0, 0, 'a'), 10_000_000);
        x.mend(batch, 7);
        sheet.due(x.letter(batch, 0, 0, 'o'), 4_285_714);
    }

    private static void lettersWhich() {
        fresh("22: n those not OWN of the WEB, b of these those of its own HEADING, o those OWN of the WEB from other LANDS");
        x.members(0, 3, 0);
        int[][] parts = {{0, 7, 1}, {0, 8, 10}, {1, 7, 100}, {1, 8, 1000}, {2, 7, 10000}, {2, 8, 3}};
        for (int[] p : parts) x.grown(p[0], p[1], p[2], 10);
        int[] laid = new int[12];
        for (int i = 0; i < 6; i++) {
            laid[2 * i] = i;
            laid[2 * i + 1] = 1;
        }
        int batch = make(0, 7, 2, 1, 1000, laid);
        sheet.due(x.letter(batch, 0, 0, 'a'), 11114);
        sheet.due(x.letter(batch, 0, 0, 'n'), 10003);
        sheet.due(x.letter(batch, 0, 0, 'b'), 10000);
        sheet.due(x.letter(batch, 0, 0, 'o'), 1100);
        sheet.due(x.letter(batch, 0, 0, 'c'), 2);
        sheet.of("22: parts of another WEB are not OWN");
        sheet.due(x.members(1, 4, 0), true);
        sheet.due(x.letter(batch, 1, 0, 'n'), 1111);
        sheet.due(x.letter(batch, 1, 0, 'b'), 101);
        sheet.due(x.letter(batch, 1, 0, 'o'), 10003);
        sheet.due(x.letter(batch, 1, 0, 'c'), 4);
        sheet.of("22: other LANDS than its own, whichever that is");
        for (int land = 0; land < 3; land++) {
            for (int i = 0; i < 6; i++) x.lay(i, 1);
            int there = x.made(land, 7, 2, 1, 1000);
            sheet.due(x.letter(there, 0, 0, 'o'), land == 0 ? 1100 : land == 1 ? 11 : 1111);
            sheet.due(x.letter(there, 1, 0, 'o'), land == 2 ? 0 : 10003);
        }
        sheet.of("22: b by its own HEADING, whichever that is");
        for (int heading = 6; heading <= 9; heading++) {
            for (int i = 0; i < 6; i++) x.lay(i, 1);
            int there = x.made(1, heading, 2, 1, 1000);
            sheet.due(x.letter(there, 0, 0, 'b'), heading == 7 ? 10000 : heading == 8 ? 3 : 0);
        }
        sheet.of("22: of no WEB that has MEMBERS");
        sheet.due(x.letter(batch, 2, 0, 'n'), 11114);
        sheet.due(x.letter(batch, 2, 0, 'b'), 10101);
        sheet.due(x.letter(batch, 2, 0, 'c'), 6);
    }

    private static void lettersOfPrices() {
        fresh("22: all by PRICES as known in q");
        x.grown(0, 0, 5, 100);
        int batch = make(0, 0, 0, 10, 10, 0, 10);
        sheet.due(x.letter(batch, 0, 0, 'a'), 500);
        x.days(2);
        x.mend(0, 8);
        sheet.due(x.letter(batch, 0, 1, 'a'), 500);
        sheet.due(x.letter(batch, 0, 2, 'a'), 800);
        x.days(1);
        x.mend(batch, 20);
        sheet.due(x.letter(batch, 0, 2, 'a'), 800);
        sheet.due(x.letter(batch, 0, 3, 'a'), 400);
        sheet.due(x.letter(batch, 0, 0, 'a'), 500);
    }

    private static void failingBounds() {
        fresh("23: NONE: all are OWN, likewise");
        sheet.due(x.failing(0, 0, 0), NONE);
        x.grown(0, 0, 1, 10);
        x.days(2);
        make(0, 0, 0, 1, 1, 0, 1);
        sheet.due(x.failing(1, 0, 2), 0);
        sheet.due(x.failing(1, 3, 2), 0);
        sheet.due(x.failing(0, 0, 2), NONE);
        sheet.due(x.failing(1, 0, 1), NONE);
        sheet.due(x.failing(1, 0, 3), NONE);
        sheet.due(x.failing(1, 0, -1), NONE);
        sheet.due(x.failing(1, 4, 2), NONE);
        sheet.due(x.failing(1, -1, 2), NONE);
        sheet.due(x.failing(2, 0, 2), NONE);
        sheet.due(x.failing(-1, 0, 2), NONE);
        for (int n : FAR) {
            sheet.due(x.failing(n, 0, 2), NONE);
            sheet.due(x.failing(1, n, 2), NONE);
            sheet.due(x.failing(1, 0, n), NONE);
        }
        x.members(0, 1, 0);
        sheet.due(x.failing(1, 0, 2), NONE);
        sheet.due(x.failing(1, 1, 2), 0);
    }

    private static void failingPlaces() {
        fresh("23: the number (from 0) of the first entry that is not OWN");
        x.members(0, 1, 0);
        x.grown(0, 0, 1, 1000);
        x.grown(1, 0, 1, 1000);
        for (int place = 0; place <= 6; place++) {
            for (int i = 0; i < 6; i++) x.lay(i < place ? 0 : 1, 1);
            int batch = x.made(0, 0, 0, 1, 1);
            sheet.due(x.failing(batch, 0, 0), place < 6 ? place : NONE);
            sheet.due(x.letter(batch, 0, 0, 'c'), 6 - place);
            for (int i = 0; i < 6; i++) x.lay(i == place ? 1 : 0, 1);
            batch = x.made(0, 0, 0, 1, 1);
            sheet.due(x.failing(batch, 0, 0), place < 6 ? place : NONE);
        }
    }

    private static void movedBounds() {
        fresh("34: NONE: no such PROTOCOL, what");
        sheet.due(x.moved(0, 0), NONE);
        x.members(0, 1, 0);
        x.grown(0, 0, 1, 10);
        make(0, 0, 0, 1, 1, 0, 1);
        rule(0, 2000, "r:1");
        sheet.due(x.moved(0, 0), 0);
        sheet.due(x.moved(0, 1), 1);
        sheet.due(x.moved(0, 2), NONE);
        sheet.due(x.moved(0, -1), NONE);
        sheet.due(x.moved(1, 0), NONE);
        sheet.due(x.moved(-1, 0), NONE);
        for (int n : FAR) {
            sheet.due(x.moved(n, 0), NONE);
            sheet.due(x.moved(0, n), NONE);
        }
        sheet.of("34: MOVED is asked alone, nothing is changed");
        sheet.due(x.own(1, 0, 0), 0);
        sheet.due(x.force(0, 0, 0), NONE);
        sheet.due(x.moved(0, 1), 1);
    }

    private static void movedOnAllDays() {
        fresh("34: were it IN FORCE on all DAYS, as known NOW");
        x.members(0, 3, 0);
        rule(0, 10, "r:p=1?1");
        x.grown(0, 0, 1, 100);
        make(0, 0, 1, 1, 1, 0, 1);
        x.days(10);
        make(0, 0, 1, 1, 1, 0, 1);
        x.days(10);
        make(0, 0, 2, 1, 1, 0, 1);
        make(2, 0, 1, 1, 1, 0, 1);
        sheet.due(x.moved(0, 1), 1);
        sheet.due(x.moved(0, 0), 0);
        rule(0, 20, "r:p=2?1");
        sheet.due(x.moved(1, 0), 1);
        sheet.due(x.moved(1, 1), 0);
        sheet.due(x.moved(0, 0), 1);
        sheet.due(x.moved(0, 1), 1);
        sheet.of("34: the entries would be judged by it, too");
        rule(0, 2000, "r:c=0&p<3?1");
        make(0, 0, 2, 1, 1, 1, 1);
        sheet.due(x.own(5, 0, 20), 1);
        x.undo(0);
        sheet.due(x.moved(2, 0), 3);
        sheet.due(x.moved(2, 1), 0);
        sheet.of("34: of its WEB");
        rule(1, 0, "r:1");
        sheet.due(x.moved(3, 0), 0);
        sheet.due(x.moved(3, 1), 0);
        x.members(1, 1, 0);
        rule(1, 0, "r:0");
        sheet.due(x.moved(3, 1), 4);
        sheet.due(x.moved(4, 1), 0);
    }

    private static void movedWebs() {
        fresh("34: of its WEB, whichever it is");
        x.grown(0, 0, 1, 100);
        for (int process = 1; process <= 3; process++) make(0, 0, process, 1, 1, 0, 1);
        for (int web = 0; web < 4; web++) x.members(web, 1, 0);
        for (int web = 0; web < 4; web++) rule(web, 0, "r:p>" + web + "?1");
        for (int web = 0; web < 4; web++) rule(web, 2000, "r:p<" + web + "?1");
        for (int again = 0; again < 2; again++) {
            for (int web = 0; web < 4; web++) {
                sheet.due(x.moved(web, 0), 0);
                sheet.due(x.moved(web, 1), 0);
                sheet.due(x.moved(4 + web, 0), 3 - web);
                sheet.due(x.moved(4 + web, 1), Math.max(0, web - 1));
                for (int b = 1; b <= 3; b++) sheet.due(x.own(b, web, 0), b > web ? 1 : 0);
            }
        }
    }

    private static void movedMany() {
        fresh("34: MADE BATCHES, up to 99 of them; GROWN ones are none");
        x.members(0, 1, 0);
        x.grown(0, 0, 1, 1);
        for (int b = 1; b < 100; b++) make(0, 0, 0, 1, 1, b - 1, 1);
        rule(0, 0, "r:c=0?1");
        sheet.due(x.moved(0, 0), 0);
        rule(0, 2000, "r:0");
        sheet.due(x.moved(1, 0), 99);
        sheet.due(x.moved(1, 1), 0);
        rule(0, 0, "r:0");
        sheet.due(x.moved(0, 1), 99);
        sheet.due(x.moved(0, 0), 0);
        x.undo(0);
        sheet.due(x.moved(0, 1), 0);
    }
}
