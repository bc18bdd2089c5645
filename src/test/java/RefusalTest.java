/** What is refused answers as told and changes nothing: each refused call is made on one of two twins, then both live on alike. */
public final class RefusalTest {
    private static final int NONE = MadeWhere.NONE;
    private static final long NO_LINE = -1_000_000_000_000L;
    private static final int LOW = Integer.MIN_VALUE;
    private static final int HIGH = Integer.MAX_VALUE;
    private static final Sheet sheet = new Sheet();

    public static void main(String[] args) {
        tellingRefused();
        benchRefused();
        batchesRefused();
        borderRefused();
        othersRefused();
        askingRefused();
        asking();
        full();
        fullBooks();
        sheet.end();
    }

    private static long yes(boolean b) { return b ? 1 : 0; }

    /** Something of everything, on DAY 30; some 100 calls. */
    private static void past(MadeWhere x) {
        x.members(0, 7, 0);
        x.members(1, 15, 0);
        Sheet.rule(x, 0, 0, "r:n<600?1;s:5;g:30;z:40;d:10");
        Sheet.rule(x, 1, 10, "r:c<2?1;s:9;g:99;d:h+y");
        x.tariff(1, 7, 250);
        x.grown(0, 7, 10, 1000);
        x.grown(1, 7, 20, 500);
        x.grown(3, 8, 30, 100);
        x.days(20);
        x.lay(0, 50);
        x.lay(2, 10);
        x.made(0, 7, 1, 40, 40);
        x.lay(1, 5);
        x.lay(3, 5);
        x.lay(2, 1);
        x.made(1, 7, 2, 60, 50);
        x.lay(2, 9);
        x.made(0, 8, 3, 20, 100);
        x.grown(2, 7, 1, 10);
        x.pour(0, 0, 6);
        x.pour(0, 1, 4);
        x.pour(3, 6, 7);
        x.draw(0, 1);
        x.clear();
        int[][] sent = {{3, 10, 1, 0, 3}, {3, 15, 1, 0, 0}, {0, 30, 1, 0, 0}, {4, 9, 0, 1, 9}, {1, 3, 4, 0, 0}, {0, 1, 1, NONE, 0}};
        for (int[] s : sent) x.ship(s[0], s[1], s[2], s[3], s[4]);
        for (int s = 0; s < 4; s++) x.paper(s, 20 + s);
        x.mend(2, 35);
        x.book();
        x.days(10);
        Sheet.rule(x, 0, 30, "r:n<500?1;s:4;d:20");
        x.undo(6);
        x.mend(2, 25);
        x.book();
        x.offer(0, 100, 7, 3, 1);
        x.offer(0, 90, 7, 0, 3);
        x.offer(1, 50, 8, 2, 1);
        x.offer(1, 60, 8, 3, 1);
        x.word(1, 300);
        x.word(1, 150);
        x.word(1, 120);
        x.word(0, 9);
        x.lay(0, 3);
        x.draw(0, 6);
        Tapes.feed(x, "r:a>1?[n+1]");
    }

    private static void tellingRefused() {
        Twins t = new Twins(sheet, RefusalTest::past);
        for (int n : new int[] {-1, 1001, LOW, HIGH}) t.still("days(" + n + ")", x -> x.days(n), NONE);
        int[][] members = {{-1, 1, 0}, {4, 1, 0}, {0, -1, 0}, {0, 256, 0}, {0, 1, -1}, {0, 1, 2001}, {LOW, 1, 0}, {HIGH, 1, 0}, {0, LOW, 0},
            {0, HIGH, 0}, {0, 1, LOW}, {0, 1, HIGH}};
        for (int[] m : members) t.still("members " + m[0] + " " + m[1] + " " + m[2], x -> yes(x.members(m[0], m[1], m[2])), 0);
        for (int n : new int[] {-1, 12, LOW, HIGH}) t.still("end(" + n + ")", x -> yes(x.end(n)), 0);
        int[][] protocols = {{-1, 0}, {4, 0}, {0, -1}, {0, 2001}, {LOW, 0}, {HIGH, 0}, {0, LOW}, {0, HIGH}};
        for (int[] p : protocols) t.still("protocol " + p[0] + " " + p[1], x -> x.protocol(p[0], p[1]), NONE);
        new Twins(sheet, x -> {
            past(x);
            x.feed(0x2B000000, 0, 0, 0, 0);
        }).still("protocol with a fault", x -> x.protocol(0, 0), NONE);
        new Twins(sheet, x -> {
            past(x);
            x.end(0);
        }).still("protocol of an empty tape", x -> x.protocol(0, 0), NONE);
        int[][] tariffs = {{-1, 7, 5}, {8, 7, 5}, {1, -1, 5}, {1, 100, 5}, {1, 7, -1}, {1, 7, 1001}, {0, 107, 5}, {2, -93, 5}, {LOW, 7, 5},
            {HIGH, 7, 5}, {1, LOW, 5}, {1, HIGH, 5}, {1, 7, LOW}, {1, 7, HIGH}};
        for (int[] a : tariffs) t.still("tariff " + a[0] + " " + a[1] + " " + a[2], x -> yes(x.tariff(a[0], a[1], a[2])), 0);
    }

    private static void benchRefused() {
        Twins t = new Twins(sheet, RefusalTest::past);
        int[][] laid = {{-1, 1}, {7, 1}, {0, 0}, {0, -1}, {0, 10001}, {6, 4}, {LOW, 1}, {HIGH, 1}, {0, LOW}, {0, HIGH}};
        for (int[] l : laid) {
            t.still("lay " + l[0] + " " + l[1], x -> x.lay(l[0], l[1]), NONE);
            t.still("pour 1 " + l[0] + " " + l[1], x -> x.pour(1, l[0], l[1]), NONE);
        }
        for (int n : new int[] {-1, 6, LOW, HIGH}) {
            t.still("pour to " + n, x -> x.pour(n, 0, 1), NONE);
            t.still("draw from " + n, x -> x.draw(n, 1), NONE);
        }
        int[][] drawn = {{0, 0}, {0, -1}, {0, 4}, {3, 8}, {1, 1}, {0, LOW}, {0, HIGH}};
        for (int[] d : drawn) t.still("draw " + d[0] + " " + d[1], x -> x.draw(d[0], d[1]), NONE);
        Twins open = new Twins(sheet, x -> {
            past(x);
            x.clear();
        });
        open.still("clear of nothing", MadeWhere::clear, 0);
        open.still("made of nothing", x -> x.made(0, 0, 0, 1, 1), NONE);
        Twins six = new Twins(sheet, x -> {
            past(x);
            for (int i = 0; i < 6; i++) x.lay(0, 1);
        });
        six.still("lay on six", x -> x.lay(0, 1), NONE);
        six.still("draw to six", x -> x.draw(0, 1), NONE);
        Twins five = new Twins(sheet, x -> {
            past(x);
            x.clear();
            for (int i = 0; i < 5; i++) x.lay(0, 1);
            x.pour(0, 1, 2);
        });
        five.still("draw of two to five", x -> x.draw(0, 4), NONE);
    }

    private static void batchesRefused() {
        Twins t = new Twins(sheet, RefusalTest::past);
        int[][] goods = {{-1, 0, 1, 1}, {8, 0, 1, 1}, {0, -1, 1, 1}, {0, 100, 1, 1}, {0, 0, 0, 1}, {0, 0, 10001, 1}, {0, 0, 1, 0}, {0, 0, 1, 10001},
            {LOW, 0, 1, 1}, {HIGH, 0, 1, 1}, {0, LOW, 1, 1}, {0, HIGH, 1, 1}, {0, 0, LOW, 1}, {0, 0, HIGH, 1}, {0, 0, 1, LOW}, {0, 0, 1, HIGH}};
        for (int[] g : goods) {
            String good = g[0] + " " + g[1] + " " + g[2] + " " + g[3];
            t.still("grown " + good, x -> x.grown(g[0], g[1], g[2], g[3]), NONE);
            t.still("made " + good, x -> x.made(g[0], g[1], 0, g[2], g[3]), NONE);
        }
        for (int n : new int[] {-1, 10, LOW, HIGH}) t.still("made by " + n, x -> x.made(0, 0, n, 1, 1), NONE);
        int[][] mends = {{-1, 5}, {7, 5}, {0, 0}, {0, 10001}, {0, -1}, {LOW, 5}, {HIGH, 5}, {0, LOW}, {0, HIGH}};
        for (int[] m : mends) t.still("mend " + m[0] + " " + m[1], x -> yes(x.mend(m[0], m[1])), 0);
        for (int n : new int[] {-1, 3, 4, 5, 6, 7, LOW, HIGH}) t.still("undo " + n, x -> yes(x.undo(n)), 0);
    }

    private static void borderRefused() {
        Twins t = new Twins(sheet, RefusalTest::past);
        int[][] sent = {{-1, 1, 1, 0, 0}, {7, 1, 1, 0, 0}, {0, 0, 1, 0, 0}, {0, -1, 1, 0, 0}, {0, 10001, 1, 0, 0}, {3, 16, 1, 0, 0}, {0, 1, -1, 0, 0},
            {0, 1, 8, 0, 0}, {0, 1, 1, -2, 0}, {0, 1, 1, 4, 0}, {0, 1, 1, 0, -1}, {0, 1, 1, 0, 401}, {LOW, 1, 1, 0, 0}, {HIGH, 1, 1, 0, 0},
            {0, LOW, 1, 0, 0}, {0, HIGH, 1, 0, 0}, {0, 1, LOW, 0, 0}, {0, 1, HIGH, 0, 0}, {0, 1, 1, LOW, 0}, {0, 1, 1, HIGH, 0}, {0, 1, 1, 0, LOW},
            {0, 1, 1, 0, HIGH}};
        for (int[] s : sent) {
            String call = "ship " + s[0] + " " + s[1] + " " + s[2] + " " + s[3] + " " + s[4];
            t.still(call, x -> x.ship(s[0], s[1], s[2], s[3], s[4]), NONE);
        }
        int[][] papers = {{-1, 0}, {6, 0}, {0, -1}, {0, 2001}, {LOW, 0}, {HIGH, 0}, {0, LOW}, {0, HIGH}};
        for (int[] p : papers) t.still("paper " + p[0] + " " + p[1], x -> yes(x.paper(p[0], p[1])), 0);
    }

    private static void othersRefused() {
        Twins t = new Twins(sheet, RefusalTest::past);
        int[][] offers = {{-1, 0, 0, 0, 0}, {4, 0, 0, 0, 0}, {3, 0, 0, 0, 0}, {0, -1, 0, 0, 0}, {0, 1000001, 0, 0, 0}, {0, 0, -1, 0, 0}, {0, 0, 100, 0, 0},
            {0, 0, 0, -1, 0}, {0, 0, 0, 16, 0}, {0, 0, 0, 0, -1}, {0, 0, 0, 0, 8}, {LOW, 0, 0, 0, 0}, {HIGH, 0, 0, 0, 0}, {0, LOW, 0, 0, 0},
            {0, HIGH, 0, 0, 0}, {0, 0, LOW, 0, 0}, {0, 0, HIGH, 0, 0}, {0, 0, 0, LOW, 0}, {0, 0, 0, HIGH, 0}, {0, 0, 0, 0, LOW}, {0, 0, 0, 0, HIGH}};
        for (int[] o : offers) {
            String call = "offer " + o[0] + " " + o[1] + " " + o[2] + " " + o[3] + " " + o[4];
            t.still(call, x -> x.offer(o[0], o[1], o[2], o[3], o[4]), NONE);
        }
        int[][] words = {{-1, 1}, {7, 1}, {0, 0}, {0, -1}, {0, 10001}, {LOW, 1}, {HIGH, 1}, {0, LOW}, {0, HIGH}};
        for (int[] w : words) t.still("word " + w[0] + " " + w[1], x -> x.word(w[0], w[1]), NONE);
    }

    private static void askingRefused() {
        Twins t = new Twins(sheet, RefusalTest::past);
        int[][] times = {{-1, 0, 0}, {4, 0, 0}, {0, -1, 0}, {0, 2001, 0}, {0, 0, -1}, {0, 0, 31}};
        for (int[] a : times) {
            t.still("member " + a[0] + " " + a[1] + " " + a[2], x -> x.member(a[0], a[1], a[2]), NONE);
            t.still("force " + a[0] + " " + a[1] + " " + a[2], x -> x.force(a[0], a[1], a[2]), NONE);
        }
        int[][] owns = {{-1, 0, 30}, {7, 0, 30}, {3, -1, 30}, {3, 4, 30}, {3, 0, 31}, {3, 0, 19}, {3, 0, -1}};
        for (int[] a : owns) {
            t.still("own " + a[0] + " " + a[1] + " " + a[2], x -> x.own(a[0], a[1], a[2]), NONE);
            t.still("letter " + a[0] + " " + a[1] + " " + a[2], x -> x.letter(a[0], a[1], a[2], 'a'), NONE);
            t.still("failing " + a[0] + " " + a[1] + " " + a[2], x -> x.failing(a[0], a[1], a[2]), NONE);
        }
        t.still("letter y", x -> x.letter(3, 0, 30, 'y'), NONE);
        t.still("letter of a grown one", x -> x.letter(0, 0, 30, 'a'), NONE);
        t.still("failing of a grown one", x -> x.failing(0, 0, 30), NONE);
        t.still("entry of a grown one", x -> x.entry(0, 0, 0), NONE);
        t.still("entry behind", x -> x.entry(3, 2, 0), NONE);
        t.still("entry what", x -> x.entry(3, 0, 2), NONE);
        t.still("told of none", x -> Sheet.fact(x, 7, 0), Sheet.THROWN);
        t.still("told what", x -> Sheet.fact(x, 0, 9), Sheet.THROWN);
        int[][] states = {{-1, 30}, {6, 30}, {0, 31}, {0, 19}, {0, -1}};
        for (int[] s : states) {
            t.still("state " + s[0] + " " + s[1], x -> x.state(s[0], s[1]), NONE);
            t.still("duty " + s[0] + " " + s[1], x -> x.duty(s[0], s[1]), NONE);
        }
        t.still("line behind", x -> x.line(x.count(5), 0), NO_LINE);
        t.still("line what", x -> x.line(0, 3), NO_LINE);
        int[][] goods = {{-1, 7, 1, 9, 1}, {8, 7, 1, 9, 1}, {0, -1, 1, 9, 1}, {0, 100, 1, 9, 1}, {0, 7, -1, 9, 1}, {0, 7, 10, 9, 1}, {0, 7, 1, 0, 1},
            {0, 7, 1, 1000001, 1}, {0, 7, 1, 9, -1}, {0, 7, 1, 9, 8}};
        for (int[] g : goods) {
            String good = g[0] + " " + g[1] + " " + g[2] + " " + g[3] + " " + g[4];
            t.still("best " + good, x -> x.best(g[0], g[1], g[2], g[3], g[4]), NONE);
            t.still("chosen " + good, x -> x.chosen(g[0], g[1], g[2], g[3], g[4], 0), NONE);
        }
        for (int n : new int[] {-1, 2, 4}) t.still("chosen part " + n, x -> x.chosen(0, 7, 1, 9, 1, n), NONE);
        int[][] moves = {{-1, 0}, {3, 0}, {0, -1}, {0, 2}};
        for (int[] m : moves) t.still("moved " + m[0] + " " + m[1], x -> x.moved(m[0], m[1]), NONE);
        t.still("struck of none", x -> x.struck(7), NONE);
        t.still("strike of none", x -> x.strike(7, 0), NONE);
        t.still("strike behind", x -> x.strike(1, 2), NONE);
        int[][] checks = {{0, 0}, {-1, 0}, {1, 1}, {1, -1}, {99, 0}};
        for (int[] c : checks) t.still("check " + c[0] + " " + c[1], x -> x.check(c[0], 5, c[1]), NONE);
        t.still("count 11", x -> x.count(11), NONE);
        t.still("count -1", x -> x.count(-1), NONE);
    }

    /** Asking alone changes nothing either, booking what is booked neither. */
    private static void asking() {
        Twins t = new Twins(sheet, RefusalTest::past);
        t.asked("fault", MadeWhere::fault);
        t.asked("own", x -> x.own(3, 1, 25));
        t.asked("letter", x -> x.letter(4, 1, 25, 'n'));
        t.asked("failing", x -> x.failing(4, 0, 25));
        t.asked("state", x -> x.state(1, 25));
        t.asked("duty", x -> x.duty(1, 25));
        t.asked("best", x -> x.best(0, 7, 1, 1000, 1));
        t.asked("chosen", x -> x.chosen(0, 7, 1, 1000, 1, 1));
        t.asked("moved", x -> x.moved(2, 0));
        t.asked("struck", x -> x.struck(1));
        t.asked("strike", x -> x.strike(1, 0));
        t.asked("check", x -> x.check(1, 7, 0));
        t.asked("count 10", x -> x.count(10));
        t.still("book again", MadeWhere::book, 0);
        t.still("days(0)", x -> x.days(0), 30);
        t.still("feed of nothing", x -> x.feed(0, 0, 0, 0, 0), 11);
        t.still("end at its end", x -> yes(x.end(11)), 1);
    }

    private static void full() {
        new Twins(sheet, x -> {
            past(x);
            x.days(1000);
            x.days(969);
        }).still("days behind 2,000", x -> x.days(2), NONE);
        new Twins(sheet, x -> {
            past(x);
            for (int i = 0; i < 38; i++) x.members(2, i, i);
        }).still("the 41st members", x -> yes(x.members(0, 1, 0)), 0);
        new Twins(sheet, x -> {
            past(x);
            for (int i = 0; i < 17; i++) Sheet.rule(x, 2, i, "r:" + i);
            Tapes.feed(x, "r:5");
        }).still("the 21st protocol", x -> x.protocol(0, 0), NONE);
        new Twins(sheet, x -> {
            past(x);
            for (int i = 0; i < 9; i++) x.feed(-1, -1, -1, -1, -1);
            x.feed(-1, -1, 0, 0, 0);
        }).still("the 201st byte", x -> x.feed(0, 0, -1, 0, 0), NONE);
        Twins batches = new Twins(sheet, x -> {
            past(x);
            for (int i = 7; i < 100; i++) x.grown(0, 0, 1, 1);
        });
        batches.still("grown, the 101st", x -> x.grown(0, 0, 1, 1), NONE);
        batches.still("made, the 101st", x -> x.made(0, 0, 0, 1, 1), NONE);
        new Twins(sheet, x -> {
            past(x);
            for (int i = 3; i < 100; i++) x.pour(i % 6, 0, 1);
        }).still("the 101st pouring", x -> x.pour(0, 0, 1), NONE);
        new Twins(sheet, x -> {
            past(x);
            for (int i = 2; i < 100; i++) x.mend(i % 3, i);
        }).still("the 101st mending", x -> yes(x.mend(0, 7)), 0);
        new Twins(sheet, x -> {
            past(x);
            for (int i = 6; i < 100; i++) x.ship(0, 1, 1, 0, 0);
        }).still("the 101st shipment", x -> x.ship(0, 1, 1, 0, 0), NONE);
        new Twins(sheet, x -> {
            past(x);
            for (int i = 4; i < 100; i++) x.paper(i % 6, 30);
        }).still("the 101st paper", x -> yes(x.paper(0, 0)), 0);
        new Twins(sheet, x -> {
            past(x);
            for (int i = 4; i < 60; i++) x.word(i % 6, i);
        }).still("the 61st word", x -> x.word(1, 1), NONE);
        Twins words = new Twins(sheet, x -> {
            past(x);
            for (int i = 3; i < 13; i++) x.word(1, i);
        });
        words.still("struck of 13", x -> x.struck(1), NONE);
        words.still("strike of 13", x -> x.strike(1, 0), NONE);
        Twins offers = new Twins(sheet, x -> {
            past(x);
            x.offer(1, 1, 1, 1, 1);
            x.offer(1, 1, 1, 1, 1);
        });
        offers.still("the fifth offer", x -> x.offer(1, 0, 0, 0, 0), NONE);
        offers.still("an offer with none ahead", x -> x.offer(3, 0, 0, 0, 0), NONE);
        Twins none = new Twins(sheet, x -> {
            past(x);
            x.offers();
        });
        none.still("best of none", x -> x.best(0, 7, 1, 1000, 1), NONE);
        none.still("chosen of none", x -> x.chosen(0, 7, 1, 1000, 1, 0), NONE);
        none.still("an offer of part 1 with none ahead", x -> x.offer(1, 0, 0, 0, 0), NONE);
    }

    private static void fullBooks() {
        Twins t = new Twins(sheet, x -> {
            x.grown(0, 0, 10000, 10000);
            x.grown(0, 1, 10000, 10000);
            for (int i = 0; i < 66; i++) x.ship(0, 100, 1, NONE, 0);
            x.ship(1, 100, 1, NONE, 0);
            for (int i = 1; i <= 6; i++) {
                x.tariff(1, 0, i);
                x.book();
            }
            x.tariff(1, 0, 7);
        });
        t.still("book of more than 400", MadeWhere::book, NONE);
        t.still("book of more than 400, twice", x -> x.book() + x.book(), 2 * NONE);
    }
}
