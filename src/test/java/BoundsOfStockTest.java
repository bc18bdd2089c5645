/** Boundary cases of DAYS, MEMBERS, TARIFF, BATCHES, the BENCH and HEAPS (promises 1 to 4, 10 to 20). */
public final class BoundsOfStockTest {
    private static final int NONE = MadeWhere.NONE;
    private static final int[] FAR = {Integer.MIN_VALUE, Integer.MIN_VALUE + 1, -1000, Integer.MAX_VALUE - 1, Integer.MAX_VALUE};
    private static final Sheet sheet = new Sheet();
    private static MadeWhere x;

    public static void main(String[] args) {
        newObject();
        days();
        membersBounds();
        membersFull();
        memberBounds();
        memberInTime();
        tariffBounds();
        tariffApart();
        grownBounds();
        batchesFull();
        layBounds();
        layFull();
        pourBounds();
        pourFull();
        pourSums();
        drawBounds();
        drawFull();
        drawTouches();
        clearing();
        madeBounds();
        madeEntries();
        mendBounds();
        mendFull();
        mendInTime();
        undoing();
        toldBounds();
        entryBounds();
        entriesApart();
        sheet.end();
    }

    private static void fresh(String sentence) {
        sheet.of(sentence);
        x = new MadeWhere();
    }

    private static void newObject() {
        fresh("1: DAY 0, no WEBS, no BATCHES");
        sheet.due(MadeWhere.NONE, -1);
        for (int what = 0; what <= 10; what++) sheet.due(x.count(what), 0);
        for (int web = 0; web < 4; web++) {
            sheet.due(x.member(web, 2000, 0), 0);
            sheet.due(x.force(web, 2000, 0), NONE);
        }
        sheet.due(x.member(0, 0, 1), NONE);
        sheet.due(Sheet.fact(x, 0, 0), Sheet.THROWN);
        sheet.due(x.clear(), 0);
        sheet.due(x.book(), 0);
        for (int heap = 0; heap < 6; heap++) sheet.due(x.draw(heap, 1), NONE);
        sheet.due(x.grown(0, 0, 1, 1), 0);
        sheet.due(Sheet.fact(x, 0, 5), 0);
        sheet.of("1: two objects are apart");
        sheet.due(new MadeWhere().count(2), 0);
    }

    private static void days() {
        fresh("2: n DAYS (0 .. 1,000) go by");
        sheet.due(x.days(0), 0);
        sheet.due(x.days(-1), NONE);
        sheet.due(x.days(1001), NONE);
        sheet.due(x.count(0), 0);
        sheet.due(x.days(1000), 1000);
        sheet.due(x.days(1001), NONE);
        sheet.of("2: NOW would be above 2,000");
        sheet.due(x.days(999), 1999);
        for (int n : FAR) sheet.due(x.days(n), NONE);
        sheet.due(x.days(2), NONE);
        sheet.due(x.days(1000), NONE);
        sheet.due(x.count(0), 1999);
        sheet.due(x.days(1), 2000);
        sheet.due(x.days(1), NONE);
        sheet.due(x.days(0), 2000);
        for (int n : FAR) sheet.due(x.days(n), NONE);
        sheet.due(x.count(0), 2000);
        sheet.due(x.days(-1), NONE);
    }

    private static void membersBounds() {
        fresh("3: out of bounds (LANDS 0 .. 255)");
        int[][] bad = {{-1, 1, 0}, {4, 1, 0}, {0, -1, 0}, {0, 256, 0}, {0, 1, -1}, {0, 1, 2001}};
        for (int[] b : bad) sheet.due(x.members(b[0], b[1], b[2]), false);
        for (int n : FAR) {
            sheet.due(x.members(n, 1, 0), false);
            sheet.due(x.members(0, n, 0), false);
            sheet.due(x.members(0, 1, n), false);
        }
        for (int web = 0; web < 4; web++) sheet.due(x.member(web, 2000, 0), 0);
        sheet.due(x.members(0, 255, 0), true);
        sheet.due(x.members(3, 128, 2000), true);
        sheet.due(x.member(0, 0, 0), 255);
        sheet.due(x.member(3, 1999, 0), 0);
        sheet.due(x.member(3, 2000, 0), 128);
        sheet.due(x.members(0, 0, 0), true);
        sheet.due(x.member(0, 0, 0), 0);
    }

    private static void membersFull() {
        fresh("3: there were 40");
        for (int i = 0; i < 39; i++) sheet.due(x.members(i % 4, i, i), true);
        sheet.due(x.members(0, 256, 0), false);
        sheet.due(x.members(3, 77, 2000), true);
        for (int web = 0; web < 4; web++) sheet.due(x.members(web, 99, 2000), false);
        int[] last = {36, 37, 38, 77};
        for (int web = 0; web < 4; web++) sheet.due(x.member(web, 2000, 0), last[web]);
        sheet.due(x.days(1000), 1000);
        sheet.due(x.members(0, 1, 0), false);
    }

    private static void memberBounds() {
        fresh("4: MEMBERS IN FORCE (0 without); NONE: no such WEB, DAY, q");
        x.days(5);
        for (int web = 0; web < 4; web++) {
            sheet.due(x.member(web, 0, 0), 0);
            sheet.due(x.members(web, 1 << web, 0), true);
            sheet.due(x.member(web, 0, 4), 0);
            sheet.due(x.member(web, 0, 5), 1 << web);
            sheet.due(x.member(web, 2000, 5), 1 << web);
        }
        int[][] bad = {{-1, 0, 5}, {4, 0, 5}, {0, -1, 5}, {0, 2001, 5}, {0, 0, -1}, {0, 0, 6}};
        for (int[] b : bad) sheet.due(x.member(b[0], b[1], b[2]), NONE);
        for (int n : FAR) {
            sheet.due(x.member(n, 0, 5), NONE);
            sheet.due(x.member(0, n, 5), NONE);
            sheet.due(x.member(0, 0, n), NONE);
        }
    }

    private static void memberInTime() {
        fresh("4: told up to q, from DAYS up to it, from the greatest DAY, told last");
        sheet.due(x.members(1, 1, 100), true);
        sheet.due(x.members(1, 2, 50), true);
        sheet.due(x.members(2, 4, 75), true);
        sheet.due(x.member(1, 49, 0), 0);
        sheet.due(x.member(1, 50, 0), 2);
        sheet.due(x.member(1, 99, 0), 2);
        sheet.due(x.member(1, 100, 0), 1);
        sheet.due(x.member(1, 101, 0), 1);
        sheet.due(x.days(3), 3);
        sheet.due(x.members(1, 8, 100), true);
        sheet.due(x.members(1, 16, 100), true);
        sheet.due(x.members(1, 32, 50), true);
        sheet.due(x.member(1, 100, 2), 1);
        sheet.due(x.member(1, 100, 3), 16);
        sheet.due(x.member(1, 99, 2), 2);
        sheet.due(x.member(1, 99, 3), 32);
        sheet.due(x.member(2, 74, 3), 0);
        sheet.due(x.member(2, 75, 3), 4);
        sheet.of("4: no MEMBERS from a DAY on");
        sheet.due(x.members(1, 0, 100), true);
        sheet.due(x.member(1, 100, 3), 0);
        sheet.due(x.member(1, 99, 3), 32);
    }

    private static void tariffBounds() {
        fresh("10: TARIFF (100 at first), thousandths 0 .. 1,000; False: out of bounds");
        x.grown(0, 99, 1, 10000);
        x.grown(0, 0, 1, 10000);
        x.ship(0, 1000, 7, NONE, 0);
        x.ship(1, 1000, 0, NONE, 0);
        sheet.due(x.duty(0, 0), 100);
        sheet.due(x.duty(1, 0), 100);
        int[][] bad = {{-1, 0, 5}, {8, 0, 5}, {0, -1, 5}, {0, 100, 5}, {0, 0, -1}, {0, 0, 1001}, {7, 100, 5}, {1, -1, 5}, {-1, 100, 5}, {8, -1, 5},
            {7, 99, -1}, {7, 99, 1001}};
        for (int[] b : bad) {
            sheet.due(x.tariff(b[0], b[1], b[2]), false);
            sheet.due(x.duty(0, 0), 100);
            sheet.due(x.duty(1, 0), 100);
        }
        for (int n : FAR) {
            sheet.due(x.tariff(n, 0, 5), false);
            sheet.due(x.tariff(0, n, 5), false);
            sheet.due(x.tariff(0, 0, n), false);
        }
        sheet.due(x.duty(1, 0), 100);
        sheet.due(x.tariff(7, 99, 1000), true);
        sheet.due(x.tariff(0, 0, 0), true);
        sheet.due(x.duty(0, 0), 1000);
        sheet.due(x.duty(1, 0), 0);
    }

    private static void tariffApart() {
        fresh("10: TARIFF of a LAND and a HEADING, as it is now");
        x.grown(0, 98, 1, 10000);
        x.grown(0, 99, 1, 10000);
        for (int s = 0; s < 4; s++) x.ship(s % 2, 1000, 6 + s / 2, NONE, 0);
        sheet.due(x.tariff(6, 99, 1), true);
        sheet.due(x.tariff(7, 98, 2), true);
        sheet.due(x.tariff(7, 99, 3), true);
        long[] want = {100, 1, 2, 3};
        for (int s = 0; s < 4; s++) sheet.due(x.duty(s, 0), want[s]);
        x.days(10);
        sheet.due(x.tariff(6, 98, 9), true);
        sheet.due(x.tariff(6, 98, 8), true);
        sheet.due(x.duty(0, 0), 8);
        sheet.due(x.duty(0, 10), 8);
    }

    private static void grownBounds() {
        fresh("11: a LAND, a HEADING, PRICE 1 .. 10,000, MANY 1 .. 10,000; NONE: out of bounds");
        int[][] bad = {{-1, 0, 1, 1}, {8, 0, 1, 1}, {0, -1, 1, 1}, {0, 100, 1, 1}, {0, 0, 0, 1}, {0, 0, 10001, 1}, {0, 0, 1, 0}, {0, 0, 1, 10001},
            {0, 0, -1, 1}, {0, 0, 1, -1}};
        for (int[] b : bad) sheet.due(x.grown(b[0], b[1], b[2], b[3]), NONE);
        for (int n : FAR) {
            sheet.due(x.grown(n, 0, 1, 1), NONE);
            sheet.due(x.grown(0, n, 1, 1), NONE);
            sheet.due(x.grown(0, 0, n, 1), NONE);
            sheet.due(x.grown(0, 0, 1, n), NONE);
        }
        sheet.due(x.count(2), 0);
        sheet.due(x.grown(0, 0, 1, 1), 0);
        sheet.due(x.grown(7, 99, 10000, 10000), 1);
        long[][] want = {{0, 0, 1, 1, 1, 0, NONE, 0, 0}, {7, 99, 10000, 10000, 10000, 0, NONE, 0, 0}};
        for (int b = 0; b < 2; b++) for (int what = 0; what <= 8; what++) sheet.due(Sheet.fact(x, b, what), want[b][what]);
    }

    private static void batchesFull() {
        fresh("11 and 16: there are 100");
        for (int i = 0; i < 99; i++) sheet.due(x.grown(0, 0, 1, 2), i);
        sheet.due(x.lay(98, 1), 1);
        sheet.due(x.made(0, 0, 0, 1, 1), 99);
        sheet.due(x.grown(0, 0, 1, 1), NONE);
        sheet.due(x.lay(98, 1), 1);
        sheet.due(x.made(0, 0, 0, 1, 1), NONE);
        sheet.due(x.count(2), 100);
        sheet.due(x.count(3), 1);
        sheet.due(x.clear(), 1);
        sheet.due(Sheet.fact(x, 98, 4), 1);
        sheet.due(Sheet.fact(x, 99, 7), 1);
        sheet.due(Sheet.fact(x, 100, 0), Sheet.THROWN);
        sheet.due(x.own(99, 0, 0), 0);
        sheet.due(x.own(100, 0, 0), NONE);
        sheet.due(x.lay(100, 1), NONE);
    }

    private static void layBounds() {
        fresh("12: no such BATCH, how many (1 at least), more than are LEFT");
        sheet.due(x.lay(0, 1), NONE);
        x.grown(0, 0, 1, 10);
        x.grown(0, 0, 1, 10000);
        for (int n : FAR) {
            sheet.due(x.lay(n, 1), NONE);
            sheet.due(x.lay(0, n), NONE);
        }
        sheet.due(x.lay(-1, 1), NONE);
        sheet.due(x.lay(2, 1), NONE);
        sheet.due(x.lay(0, 0), NONE);
        sheet.due(x.lay(0, -1), NONE);
        sheet.due(x.lay(0, 11), NONE);
        sheet.due(x.lay(1, 10001), NONE);
        sheet.due(x.count(3), 0);
        sheet.due(Sheet.fact(x, 0, 4), 10);
        sheet.due(x.lay(0, 1), 1);
        sheet.due(x.lay(0, 10), NONE);
        sheet.due(x.lay(0, 9), 2);
        sheet.due(Sheet.fact(x, 0, 4), 0);
        sheet.due(x.lay(0, 1), NONE);
        sheet.due(x.lay(1, 10000), 3);
        sheet.due(x.lay(1, 1), NONE);
        sheet.due(x.count(3), 3);
    }

    private static void layFull() {
        fresh("12: six entries; laying of the same BATCH is one entry more");
        x.grown(0, 0, 1, 10);
        for (int i = 1; i <= 6; i++) sheet.due(x.lay(0, 1), i);
        sheet.due(x.lay(0, 1), NONE);
        sheet.due(x.count(3), 6);
        sheet.due(Sheet.fact(x, 0, 4), 4);
        sheet.due(x.made(0, 0, 0, 1, 1), 1);
        sheet.due(Sheet.fact(x, 1, 7), 6);
        sheet.due(x.lay(0, 4), 1);
        sheet.of("12: six entries, some of them drawn");
        x.grown(0, 0, 1, 10);
        x.pour(0, 2, 2);
        x.pour(0, 2, 2);
        sheet.due(x.draw(0, 4), 3);
        for (int i = 4; i <= 6; i++) sheet.due(x.lay(2, 1), i);
        sheet.due(x.lay(2, 1), NONE);
        sheet.due(Sheet.fact(x, 2, 4), 3);
    }

    private static void pourBounds() {
        fresh("13: no such BATCH, how many (1 at least), more than are LEFT, no such HEAP");
        sheet.due(x.pour(0, 0, 1), NONE);
        x.grown(0, 0, 1, 10);
        for (int n : FAR) {
            sheet.due(x.pour(n, 0, 1), NONE);
            sheet.due(x.pour(0, n, 1), NONE);
            sheet.due(x.pour(0, 0, n), NONE);
        }
        sheet.due(x.pour(-1, 0, 1), NONE);
        sheet.due(x.pour(6, 0, 1), NONE);
        sheet.due(x.pour(0, -1, 1), NONE);
        sheet.due(x.pour(0, 1, 1), NONE);
        sheet.due(x.pour(0, 0, 0), NONE);
        sheet.due(x.pour(0, 0, -1), NONE);
        sheet.due(x.pour(0, 0, 11), NONE);
        sheet.due(Sheet.fact(x, 0, 4), 10);
        sheet.due(x.draw(0, 1), NONE);
        sheet.due(x.pour(0, 0, 1), 1);
        sheet.due(x.pour(5, 0, 10), NONE);
        sheet.due(x.pour(5, 0, 9), 9);
        sheet.due(Sheet.fact(x, 0, 4), 0);
        sheet.due(x.pour(0, 0, 1), NONE);
        sheet.due(x.draw(0, 1), 1);
        sheet.due(x.draw(5, 9), 2);
        sheet.of("13: pouring looks not at the BENCH");
        x.grown(0, 0, 1, 10);
        for (int i = 3; i <= 6; i++) sheet.due(x.lay(1, 1), i);
        sheet.due(x.pour(0, 1, 6), 6);
    }

    private static void pourFull() {
        fresh("13: there were 100 pourings");
        x.grown(0, 0, 1, 10000);
        for (int i = 0; i < 99; i++) sheet.due(x.pour(i % 6, 0, 1), i / 6 + 1);
        sheet.due(x.pour(3, 0, 0), NONE);
        sheet.due(x.pour(5, 0, 7), 23);
        for (int heap = 0; heap < 6; heap++) sheet.due(x.pour(heap, 0, 1), NONE);
        sheet.due(Sheet.fact(x, 0, 4), 10000 - 106);
        for (int heap = 0; heap < 6; heap++) {
            sheet.due(x.draw(heap, 6), 6);
            x.clear();
        }
        sheet.due(x.pour(0, 0, 1), NONE);
    }

    private static void pourSums() {
        fresh("13: how many lie there, of 100 pourings of 10,000");
        for (int i = 0; i < 100; i++) x.grown(0, 0, 1, 10000);
        for (int i = 0; i < 100; i++) sheet.due(x.pour(2, i, 10000), 10000 * (i + 1));
        sheet.due(x.draw(2, 60001), NONE);
        sheet.due(x.draw(2, 60000), 6);
        x.clear();
        sheet.due(x.draw(2, 940001), NONE);
    }

    private static void drawBounds() {
        fresh("14: n (1 at least), no such HEAP, not so many");
        x.grown(0, 0, 1, 100);
        x.pour(0, 0, 3);
        x.pour(5, 0, 3);
        for (int n : FAR) {
            sheet.due(x.draw(n, 1), NONE);
            sheet.due(x.draw(0, n), NONE);
        }
        sheet.due(x.draw(-1, 1), NONE);
        sheet.due(x.draw(6, 1), NONE);
        sheet.due(x.draw(0, 0), NONE);
        sheet.due(x.draw(0, -1), NONE);
        sheet.due(x.draw(0, 4), NONE);
        sheet.due(x.draw(1, 1), NONE);
        sheet.due(x.count(3), 0);
        sheet.due(x.draw(0, 1), 1);
        sheet.due(x.draw(0, 3), NONE);
        sheet.due(x.draw(0, 2), 2);
        sheet.due(x.draw(0, 1), NONE);
        sheet.due(x.draw(5, 3), 3);
        sheet.due(x.pour(0, 0, 1), 1);
        sheet.due(x.draw(0, 1), 4);
    }

    private static void drawFull() {
        fresh("14: more than six entries");
        x.grown(0, 0, 1, 100);
        for (int i = 0; i < 7; i++) x.pour(0, 0, 2);
        sheet.due(x.draw(0, 13), NONE);
        sheet.due(x.draw(0, 14), NONE);
        sheet.due(x.count(3), 0);
        sheet.due(x.draw(0, 12), 6);
        sheet.due(x.draw(0, 1), NONE);
        sheet.due(x.clear(), 6);
        sheet.due(x.pour(0, 0, 2), 4);
        for (int i = 1; i <= 5; i++) x.lay(0, 1);
        sheet.of("14: all or nothing");
        sheet.due(x.draw(0, 3), NONE);
        sheet.due(x.count(3), 5);
        sheet.due(x.draw(0, 2), 6);
        sheet.due(x.draw(0, 1), NONE);
        sheet.due(x.clear(), 6);
        sheet.due(x.draw(0, 2), 1);
        sheet.due(x.draw(0, 1), NONE);
    }

    private static void entryIs(int batch, int i, int ofBatch, int many) {
        sheet.due(x.entry(batch, i, 0), ofBatch);
        sheet.due(x.entry(batch, i, 1), many);
    }

    private static void drawTouches() {
        fresh("14: the first that came; of each pouring that is touched one entry, in that order");
        x.grown(0, 0, 1, 100);
        x.grown(0, 0, 1, 100);
        x.pour(3, 1, 5);
        x.pour(2, 0, 50);
        x.pour(3, 0, 4);
        x.pour(3, 1, 3);
        sheet.due(x.draw(3, 4), 1);
        sheet.due(x.draw(3, 1), 2);
        sheet.due(x.draw(3, 4), 3);
        sheet.due(x.draw(3, 1), 4);
        sheet.due(x.made(0, 0, 0, 1, 1), 2);
        entryIs(2, 0, 1, 4);
        entryIs(2, 1, 1, 1);
        entryIs(2, 2, 0, 4);
        entryIs(2, 3, 1, 1);
        x.pour(3, 0, 2);
        sheet.due(x.draw(3, 3), 2);
        sheet.due(x.made(0, 0, 0, 1, 1), 3);
        entryIs(3, 0, 1, 2);
        entryIs(3, 1, 0, 1);
        sheet.due(x.draw(3, 2), NONE);
        sheet.due(x.draw(3, 1), 1);
        sheet.due(x.draw(2, 50), 2);
    }

    private static void clearing() {
        fresh("15: how many entries lay there; what lies there goes back to LEFT (what was drawn, too)");
        sheet.due(x.clear(), 0);
        x.grown(0, 0, 1, 20);
        x.pour(0, 0, 5);
        sheet.due(x.clear(), 0);
        sheet.due(Sheet.fact(x, 0, 4), 15);
        x.lay(0, 15);
        sheet.due(Sheet.fact(x, 0, 4), 0);
        sheet.due(x.draw(0, 3), 2);
        sheet.due(x.clear(), 2);
        sheet.due(Sheet.fact(x, 0, 4), 18);
        sheet.due(x.clear(), 0);
        sheet.due(Sheet.fact(x, 0, 4), 18);
        sheet.of("15: what was drawn is not on its HEAP again");
        sheet.due(x.draw(0, 3), NONE);
        sheet.due(x.draw(0, 2), 1);
        for (int i = 2; i <= 6; i++) sheet.due(x.lay(0, 1), i);
        sheet.due(x.clear(), 6);
        sheet.due(Sheet.fact(x, 0, 4), 20);
        sheet.due(x.count(3), 0);
    }

    private static void madeBounds() {
        fresh("16: out of bounds, an empty BENCH");
        x.grown(0, 0, 1, 100);
        sheet.due(x.made(0, 0, 0, 1, 1), NONE);
        x.lay(0, 5);
        int[][] bad = {{-1, 0, 0, 1, 1}, {8, 0, 0, 1, 1}, {0, -1, 0, 1, 1}, {0, 100, 0, 1, 1}, {0, 0, -1, 1, 1}, {0, 0, 10, 1, 1}, {0, 0, 0, 0, 1},
            {0, 0, 0, 10001, 1}, {0, 0, 0, 1, 0}, {0, 0, 0, 1, 10001}, {0, 0, 0, -1, 1}, {0, 0, 0, 1, -1}};
        for (int[] b : bad) sheet.due(x.made(b[0], b[1], b[2], b[3], b[4]), NONE);
        for (int n : FAR) {
            sheet.due(x.made(n, 0, 0, 1, 1), NONE);
            sheet.due(x.made(0, n, 0, 1, 1), NONE);
            sheet.due(x.made(0, 0, n, 1, 1), NONE);
            sheet.due(x.made(0, 0, 0, n, 1), NONE);
            sheet.due(x.made(0, 0, 0, 1, n), NONE);
        }
        sheet.due(x.count(2), 1);
        sheet.due(x.count(3), 1);
        sheet.due(Sheet.fact(x, 0, 4), 95);
        sheet.due(x.made(0, 0, 0, 1, 1), 1);
        sheet.due(x.count(3), 0);
        sheet.due(x.made(0, 0, 0, 1, 1), NONE);
        x.lay(0, 95);
        sheet.due(x.made(7, 99, 9, 10000, 10000), 2);
        long[][] want = {{0, 0, 1, 1, 1, 0, 0, 1, 0}, {7, 99, 10000, 10000, 10000, 0, 9, 1, 0}};
        for (int b = 0; b < 2; b++) for (int what = 0; what <= 8; what++) sheet.due(Sheet.fact(x, b + 1, what), want[b][what]);
        sheet.of("16: what was used up is LEFT no more");
        sheet.due(x.clear(), 0);
        sheet.due(Sheet.fact(x, 0, 4), 0);
        sheet.due(x.lay(2, 10000), 1);
    }

    private static void madeEntries() {
        fresh("16: six entries at most, one at least");
        x.grown(0, 0, 1, 100);
        for (int entries = 1; entries <= 6; entries++) {
            for (int i = 1; i <= entries; i++) sheet.due(x.lay(0, i), i);
            sheet.due(x.made(0, 0, 0, 1, 1), entries);
            sheet.due(Sheet.fact(x, entries, 7), entries);
            for (int i = 0; i < entries; i++) entryIs(entries, i, 0, i + 1);
            entryIs(entries, entries, NONE, NONE);
        }
    }

    private static void mendBounds() {
        fresh("17: no such BATCH, out of bounds");
        sheet.due(x.mend(0, 1), false);
        x.grown(0, 0, 7, 1);
        x.lay(0, 1);
        x.made(0, 0, 0, 8, 1);
        int[][] bad = {{-1, 5}, {2, 5}, {0, 0}, {0, -1}, {0, 10001}, {1, 0}, {1, 10001}};
        for (int[] b : bad) sheet.due(x.mend(b[0], b[1]), false);
        for (int n : FAR) {
            sheet.due(x.mend(n, 5), false);
            sheet.due(x.mend(0, n), false);
        }
        sheet.due(Sheet.fact(x, 0, 2), 7);
        sheet.due(Sheet.fact(x, 1, 2), 8);
        sheet.due(x.mend(0, 10000), true);
        sheet.due(x.mend(1, 1), true);
        sheet.due(Sheet.fact(x, 0, 2), 10000);
        sheet.due(Sheet.fact(x, 1, 2), 1);
    }

    private static void mendFull() {
        fresh("17: there were 100");
        x.grown(0, 0, 5000, 1);
        x.grown(0, 0, 5000, 1);
        for (int i = 1; i < 100; i++) sheet.due(x.mend(i % 2, i), true);
        sheet.due(x.mend(0, 0), false);
        sheet.due(x.mend(0, 100), true);
        sheet.due(x.mend(0, 101), false);
        sheet.due(x.mend(1, 101), false);
        sheet.due(Sheet.fact(x, 0, 2), 100);
        sheet.due(Sheet.fact(x, 1, 2), 99);
        x.days(1);
        sheet.due(x.mend(0, 101), false);
        sheet.due(Sheet.fact(x, 0, 2), 100);
    }

    private static void mendInTime() {
        fresh("17: PRICE as known in q is the one told last up to q");
        x.tariff(1, 0, 1000);
        x.grown(0, 0, 5, 1);
        x.ship(0, 1, 1, NONE, 0);
        x.days(3);
        x.mend(0, 6);
        x.mend(0, 7);
        x.days(3);
        x.mend(0, 4);
        long[] want = {5, 5, 5, 7, 7, 7, 4};
        for (int q = 0; q <= 6; q++) sheet.due(x.duty(0, q), want[q]);
        sheet.due(Sheet.fact(x, 0, 2), 4);
    }

    private static void undoing() {
        fresh("18: no such one, MADE, it is");
        sheet.due(x.undo(0), false);
        x.members(0, 1, 0);
        x.grown(0, 0, 1, 10);
        x.lay(0, 1);
        x.made(0, 0, 0, 1, 1);
        x.grown(0, 0, 1, 10);
        for (int n : FAR) sheet.due(x.undo(n), false);
        sheet.due(x.undo(-1), false);
        sheet.due(x.undo(3), false);
        sheet.due(x.undo(1), false);
        sheet.due(x.count(9), 0);
        x.days(2);
        sheet.due(x.undo(0), true);
        sheet.due(x.count(9), 1);
        sheet.of("18: may be UNDONE once");
        x.days(2);
        sheet.due(x.undo(0), false);
        sheet.due(x.count(9), 1);
        long[] want = {1, 1, 0, 0, 0};
        for (int q = 0; q <= 4; q++) sheet.due(x.own(0, 0, q), want[q]);
        sheet.due(Sheet.fact(x, 0, 8), 1);
        sheet.due(Sheet.fact(x, 2, 8), 0);
        sheet.due(x.undo(2), true);
        sheet.due(x.own(2, 0, 3), 1);
        sheet.due(x.own(2, 0, 4), 0);
        sheet.due(x.count(9), 2);
        sheet.of("18: all PROOFS UNDONE");
        x = new MadeWhere();
        for (int i = 0; i < 100; i++) x.grown(0, 0, 1, 1);
        for (int i = 0; i < 100; i++) sheet.due(x.undo(99 - i), true);
        sheet.due(x.count(9), 100);
        sheet.due(x.undo(0), false);
        fresh("19: whether its PROOF is UNDONE, however late");
        x.days(1000);
        x.days(900);
        for (int b = 0; b < 3; b++) x.grown(0, 0, 1, 1);
        x.days(100);
        sheet.due(x.undo(1), true);
        for (int b = 0; b < 3; b++) sheet.due(Sheet.fact(x, b, 8), b == 1 ? 1 : 0);
        sheet.due(x.count(9), 1);
    }

    private static void entriesApart() {
        fresh("20: entries of each BATCH, whatever is made of it, told or UNDONE behind it");
        x.grown(0, 0, 1, 10000);
        for (int b = 1; b <= 14; b++) {
            for (int i = 0; i < 6; i++) sheet.due(x.lay(i == 5 ? b - 1 : 0, 20 + b + i), i + 1);
            sheet.due(x.made(0, 0, 0, 1, 1000), b);
        }
        sheet.due(x.undo(0), true);
        for (int b = 15; b <= 18; b++) {
            sheet.due(x.grown(0, 0, 1, 1), b);
            sheet.due(x.undo(b), true);
        }
        for (int b = 1; b <= 14; b++) {
            sheet.due(Sheet.fact(x, b, 7), 6);
            for (int i = 0; i < 6; i++) {
                sheet.due(x.entry(b, i, 0), i == 5 ? b - 1 : 0);
                sheet.due(x.entry(b, i, 1), 20 + b + i);
            }
        }
        for (int b = 15; b <= 18; b++) sheet.due(Sheet.fact(x, b, 7), 0);
        sheet.due(x.lay(3, 7), 1);
        sheet.due(x.made(0, 0, 0, 1, 1), 19);
        sheet.due(Sheet.fact(x, 19, 7), 1);
        entryIs(19, 0, 3, 7);
    }

    private static void toldBounds() {
        fresh("19: NoSuchElementException: no such BATCH, what");
        for (int what = -1; what <= 9; what++) sheet.due(Sheet.fact(x, 0, what), Sheet.THROWN);
        x.days(1000);
        x.days(1000);
        x.grown(1, 2, 3, 4);
        x.lay(0, 1);
        x.made(5, 6, 7, 8, 9);
        long[][] want = {{1, 2, 3, 4, 3, 2000, NONE, 0, 0}, {5, 6, 8, 9, 9, 2000, 7, 1, 0}};
        for (int b = 0; b < 2; b++) for (int what = 0; what <= 8; what++) sheet.due(Sheet.fact(x, b, what), want[b][what]);
        for (int b = 0; b < 2; b++) {
            sheet.due(Sheet.fact(x, b, -1), Sheet.THROWN);
            sheet.due(Sheet.fact(x, b, 9), Sheet.THROWN);
            for (int n : FAR) sheet.due(Sheet.fact(x, b, n), Sheet.THROWN);
        }
        for (int what = 0; what <= 8; what++) {
            sheet.due(Sheet.fact(x, -1, what), Sheet.THROWN);
            sheet.due(Sheet.fact(x, 2, what), Sheet.THROWN);
            for (int n : FAR) sheet.due(Sheet.fact(x, n, what), Sheet.THROWN);
        }
    }

    private static void entryBounds() {
        fresh("20: of entry i of a MADE BATCH 0 BATCH, 1 how many; NONE for others");
        sheet.due(x.entry(0, 0, 0), NONE);
        x.grown(0, 0, 1, 100);
        x.lay(0, 9);
        sheet.due(x.entry(0, 0, 0), NONE);
        x.lay(0, 8);
        x.made(0, 0, 0, 1, 1);
        x.lay(1, 1);
        x.made(0, 0, 0, 1, 1);
        entryIs(0, 0, NONE, NONE);
        entryIs(1, -1, NONE, NONE);
        entryIs(1, 0, 0, 9);
        entryIs(1, 1, 0, 8);
        entryIs(1, 2, NONE, NONE);
        entryIs(2, 0, 1, 1);
        entryIs(2, 1, NONE, NONE);
        entryIs(2, 6, NONE, NONE);
        entryIs(3, 0, NONE, NONE);
        entryIs(-1, 0, NONE, NONE);
        sheet.due(x.entry(1, 0, -1), NONE);
        sheet.due(x.entry(1, 0, 2), NONE);
        for (int n : FAR) {
            sheet.due(x.entry(n, 0, 0), NONE);
            sheet.due(x.entry(1, n, 0), NONE);
            sheet.due(x.entry(1, 0, n), NONE);
        }
    }
}
