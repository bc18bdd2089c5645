import java.util.NoSuchElementException;

/** Each promise by hand: ordinary inputs, the edges that the document names, wrong inputs. */
public final class PromisesTest {
    private static final int NONE = MadeWhere.NONE;
    private static int wrong;
    private static int asked;
    private static int promise;
    private static MadeWhere x;

    public static void main(String[] args) {
        newObject();
        days();
        members();
        tape();
        faults();
        sums();
        protocols();
        tariff();
        grown();
        bench();
        heaps();
        made();
        mendAndUndo();
        told();
        entry();
        own();
        chainsOfOwn();
        letters();
        failing();
        ship();
        paper();
        states();
        quotas();
        duty();
        book();
        bookLimit();
        bookFull();
        offers();
        best();
        bestOfWebs();
        moved();
        words();
        checks();
        counts();
        System.out.println(wrong == 0 ? asked + " answers are as due" : wrong + " of " + asked + " answers are not as due");
        if (wrong != 0) System.exit(1);
    }

    private static void fresh(int ofPromise) {
        promise = ofPromise;
        x = new MadeWhere();
    }

    private static void due(long got, long want) {
        asked++;
        if (got == want) return;
        wrong++;
        StackTraceElement[] trace = new Throwable().getStackTrace();
        StackTraceElement at = trace[trace[1].getMethodName().equals("due") ? 2 : 1];
        System.out.println("promise " + promise + ", line " + at.getLineNumber() + ": answered " + got + ", due is " + want);
    }

    private static void due(boolean got, boolean want) { due(got ? 1 : 0, want ? 1 : 0); }

    private static int rule(int web, int from, String text) {
        Tapes.feed(x, text);
        return x.protocol(web, from);
    }

    /** NONE of told is an exception. */
    private static long fact(int batch, int what) {
        try {
            return x.told(batch, what);
        } catch (NoSuchElementException e) {
            return Long.MIN_VALUE;
        }
    }

    private static void newObject() {
        fresh(1);
        due(MadeWhere.NONE, -1);
        for (int what = 0; what <= 10; what++) due(x.count(what), 0);
        due(x.member(0, 0, 0), 0);
        due(x.force(0, 0, 0), NONE);
        due(x.fault(), 0);
        due(fact(0, 0), Long.MIN_VALUE);
        due(x.clear(), 0);
    }

    private static void days() {
        fresh(2);
        due(x.days(0), 0);
        due(x.days(-1), NONE);
        due(x.days(1001), NONE);
        due(x.days(1000), 1000);
        due(x.days(999), 1999);
        due(x.days(2), NONE);
        due(x.days(1), 2000);
        due(x.days(1), NONE);
        due(x.days(0), 2000);
        due(x.days(Integer.MAX_VALUE), NONE);
        due(x.days(Integer.MIN_VALUE), NONE);
    }

    private static void members() {
        fresh(3);
        due(x.members(-1, 1, 0), false);
        due(x.members(4, 1, 0), false);
        due(x.members(0, -1, 0), false);
        due(x.members(0, 256, 0), false);
        due(x.members(0, 1, -1), false);
        due(x.members(0, 1, 2001), false);
        due(x.members(3, 255, 2000), true);
        due(x.members(0, 1, 10), true);
        due(x.members(0, 2, 5), true);
        due(x.members(0, 4, 5), true);
        promise = 4;
        due(x.member(0, 4, 0), 0);
        due(x.member(0, 5, 0), 4);
        due(x.member(0, 9, 0), 4);
        due(x.member(0, 10, 0), 1);
        due(x.member(1, 10, 0), 0);
        due(x.member(3, 1999, 0), 0);
        due(x.member(3, 2000, 0), 255);
        due(x.days(7), 7);
        due(x.members(0, 8, 10), true);
        due(x.member(0, 10, 6), 1);
        due(x.member(0, 10, 7), 8);
        due(x.member(-1, 0, 0), NONE);
        due(x.member(4, 0, 0), NONE);
        due(x.member(0, -1, 0), NONE);
        due(x.member(0, 2001, 0), NONE);
        due(x.member(0, 0, -1), NONE);
        due(x.member(0, 0, 8), NONE);
        promise = 3;
        for (int i = 5; i < 40; i++) due(x.members(2, 0, 0), true);
        due(x.members(2, 0, 0), false);
        due(x.members(0, 1, 0), false);
        due(x.member(0, 10, 7), 8);
    }

    private static void tape() {
        fresh(5);
        due(x.feed(0x723A3100, 0, 0, 0, 0), 3);
        due(x.fault(), NONE);
        due(x.feed(0, 0x2B, 0x3200, 0, 0), 5);
        due(x.fault(), NONE);
        due(x.feed(0, 0, 0, 0, 0), 5);
        promise = 6;
        due(x.end(6), false);
        due(x.end(-1), false);
        due(x.end(5), true);
        due(x.end(4), true);
        due(x.fault(), 4);
        due(x.count(8), 4);
        due(x.end(0), true);
        promise = 5;
        for (int i = 1; i <= 9; i++) due(x.feed(-1, -1, -1, -1, -1), 20 * i);
        due(x.feed(-1, -1, -1, -1, 0), 196);
        due(x.feed(-1, 1, 0, 0, 0), NONE);
        due(x.feed(0, -1, 1, 0, 0), NONE);
        due(x.feed(0, 0, -1, 1, 0), NONE);
        due(x.feed(0, 0, 0, -1, 1), NONE);
        due(x.feed(1, 0, 0, 0, -1), NONE);
        due(x.count(8), 196);
        due(x.feed(0, 0, 0, 0x01010101, 0), 200);
        for (int shift = 0; shift < 32; shift += 8) {
            due(x.feed(1 << shift, 0, 0, 0, 0), NONE);
            due(x.feed(0, 0, 0, 0, 1 << shift), NONE);
        }
        due(x.feed(0, 0, 0, 0, 0), 200);
        due(x.fault(), 0);
    }

    private static void fault(String text, int want) {
        Tapes.feed(x, text);
        due(x.fault(), want);
    }

    private static void faults() {
        fresh(7);
        fault("r:1", NONE);
        fault("", 0);
        fault("r", 1);
        fault("a:1", 0);
        fault("r;1", 1);
        fault("r:", 2);
        fault("r:1;", 4);
        fault("r:1;d:2;s:3;g:4;z:5", NONE);
        fault("r:1;x:2", 4);
        fault("r:a+n-b*o/c+h-p*y", NONE);
        fault("r:d", 2);
        fault("r:1+", 4);
        fault("r:+1", 2);
        fault("r:-1", 2);
        fault("r:1 2", 4);
        fault("r:12345", NONE);
        fault("r:123456", 7);
        fault("r:1a", 3);
        fault("r:a1", 3);
        fault("r:a?1", 3);
        fault("r:a=1", 5);
        fault("r:a=1?", 6);
        fault("r:a=1?2", NONE);
        fault("r:a=1?2?3", 7);
        fault("r:a=1?2=3", 7);
        fault("r:a=1=2?3", 5);
        fault("r:a==1?2", 4);
        fault("r:a<1&b>2|c=3?1", NONE);
        fault("r:a&b=1?1", 3);
        fault("r:!a=1?2", NONE);
        fault("r:!a?2", 4);
        fault("r:!a;", 4);
        fault("r:(a=1)?2", NONE);
        fault("r:(a=1)+1", 7);
        fault("r:(a=1|!(b=2&c=3))&n<[1+2]*3?[[4]]", NONE);
        fault("r:a=1&!?2", 7);
        fault("r:[a=1]?2", 4);
        fault("r:[(a=1)]?2", 3);
        fault("r:[a+1", 6);
        fault("r:[a+1)", 6);
        fault("r:(a=1]", 6);
        fault("r:[]", 3);
        fault("r:()", 3);
        fault("r:a=(1)?2", 4);
        fault("r:a=1?(2)", 6);
        fault("r:a=1?!2", 6);
        fault("r:1\u00a02", 3);
        fault(" r : a = 1 ? 2 ; d : [ 3 + 4 ] ", NONE);
        fault("r : ! ( a = 1 ) | b > 2 & c < 3 ? n * 2", NONE);
        fault("r:\t1", 2);
        fault("r:12 ", NONE);
        fault("r: ", 3);
        fault("R:1", 0);
        fault("r:[[[[[[[[1]]]]]]]]", NONE);
        fault("r:[[[[[[[[[1]]]]]]]]]", 10);
        fault("r:!!!!!!!!a=1?2", NONE);
        fault("r:!!!!!!!!!a=1?2", 10);
        fault("r:!!!!!!!![a]=1?2", 10);
        fault("r:!!!!!!!!a=1&[a]=1?2", NONE);
        fault("r:!(!(!(!(a=1))))?2", NONE);
        fault("r:!(!(!(!(![a]=1))))?2", 10);
        fault("r:!(!(!(!([a]=1))))?2", 10);
        fault("r:((((((((a=1))))))))?[[[[[[[[1]]]]]]]]", NONE);
        fault("r:(((((((((a=1)))))))))?1", 10);
        fault("r:1]", 3);
        fault("r:1)", 3);
    }

    /** What a sum comes to, told by the duty of a shipment of 1,000,000 coins' worth: within 0 .. 1,000. */
    private static void sum(String sum, int want) {
        x = new MadeWhere();
        x.members(0, 3, 0);
        x.grown(0, 42, 1000, 1000);
        rule(0, 0, "s:400;g:2000;d:" + sum);
        x.days(720);
        x.members(0, 3, 0);
        int batch = x.grown(0, 42, 1000, 1000);
        x.ship(batch, 1000, 1, 0, 0);
        x.paper(0, 0);
        due(x.state(0, 720), 1);
        due(x.duty(0, 720), 1000L * want);
    }

    private static void sums() {
        promise = 8;
        sum("1+2*3", 7);
        sum("[1+2]*3", 9);
        sum("20-5-3", 12);
        sum("100/7/2", 7);
        sum("100/[7/2]", 33);
        sum("7*3/2", 10);
        sum("5/0+1", 1);
        sum("[0-7]/2+10", 7);
        sum("h", 42);
        sum("y", 2);
        sum("1+a+n+b+o+c+p", 1);
        sum("99999*99999/10000", 1000);
        sum("99999*99999/20000", 500);
        sum("99999*99999+99999-99999*100", 100);
        sum("0-99999*99999-99999+99999*100+105", 5);
        sum("1001", 1000);
        sum("0-1", 0);
        sum("1=1?5;d:6", 5);
        sum("1=2?5;d:6", 6);
        sum("1<2?5", 5);
        sum("2<2?5;d:6", 6);
        sum("2>1?5", 5);
        sum("2>2?5;d:6", 6);
        sum("1=2|1=1?5;d:6", 5);
        sum("1=2&1=1?5;d:6", 6);
        sum("1=1|1=1&1=2?5;d:6", 5);
        sum("(1=1|1=1)&1=2?5;d:6", 6);
        sum("!1=1?5;d:6", 6);
        sum("!!1=1?5;d:6", 5);
        sum("!1=2&1=2?5;d:6", 6);
        sum("!(1=2&1=2)?5;d:6", 5);
        sum("1=2?5;d:1=2?6", 0);
        sum("5;d:6", 5);
        sum("y=2&h>41?[h-2]*y ; d : 1", 80);
        sum("00012", 12);
    }

    private static void protocols() {
        fresh(8);
        due(rule(0, 0, "r:"), NONE);
        due(x.count(8), 2);
        due(rule(4, 0, "r:1"), NONE);
        due(rule(-1, 0, "r:1"), NONE);
        due(rule(0, -1, "r:1"), NONE);
        due(rule(0, 2001, "r:1"), NONE);
        due(x.count(8), 3);
        due(x.protocol(0, 2000), 0);
        due(x.count(8), 0);
        due(x.protocol(0, 0), NONE);
        due(rule(0, 100, "r:1"), 1);
        due(rule(1, 100, "r:1"), 2);
        due(rule(0, 100, "r:2"), 3);
        due(x.days(10), 10);
        due(rule(0, 100, "r:3"), 4);
        promise = 9;
        due(x.force(0, 99, 10), NONE);
        due(x.force(0, 100, 9), 3);
        due(x.force(0, 100, 10), 4);
        due(x.force(0, 1999, 10), 4);
        due(x.force(0, 2000, 10), 0);
        due(x.force(1, 100, 0), 2);
        due(x.force(2, 100, 0), NONE);
        due(x.force(4, 0, 0), NONE);
        due(x.force(-1, 0, 0), NONE);
        due(x.force(0, 2001, 0), NONE);
        due(x.force(0, -1, 0), NONE);
        due(x.force(0, 100, 11), NONE);
        due(x.force(0, 100, -1), NONE);
        promise = 8;
        for (int i = 5; i < 20; i++) due(rule(i % 4, 0, "r:1"), i);
        due(rule(0, 0, "r:1"), NONE);
        due(x.count(8), 3);
        due(x.count(1), 20);
    }

    private static void tariff() {
        fresh(10);
        due(x.grown(0, 99, 10, 1000), 0);
        due(x.ship(0, 100, 7, NONE, 0), 0);
        due(x.duty(0, 0), 100);
        due(x.tariff(7, 99, 1000), true);
        due(x.duty(0, 0), 1000);
        due(x.tariff(7, 99, 0), true);
        due(x.duty(0, 0), 0);
        due(x.tariff(7, 98, 5), true);
        due(x.tariff(6, 99, 5), true);
        due(x.duty(0, 0), 0);
        due(x.tariff(8, 0, 5), false);
        due(x.tariff(-1, 0, 5), false);
        due(x.tariff(7, 100, 5), false);
        due(x.tariff(7, -1, 5), false);
        due(x.tariff(7, 99, -1), false);
        due(x.tariff(7, 99, 1001), false);
        due(x.duty(0, 0), 0);
    }

    private static void grown() {
        fresh(11);
        due(x.grown(-1, 0, 1, 1), NONE);
        due(x.grown(8, 0, 1, 1), NONE);
        due(x.grown(0, -1, 1, 1), NONE);
        due(x.grown(0, 100, 1, 1), NONE);
        due(x.grown(0, 0, 0, 1), NONE);
        due(x.grown(0, 0, 10001, 1), NONE);
        due(x.grown(0, 0, 1, 0), NONE);
        due(x.grown(0, 0, 1, 10001), NONE);
        due(x.grown(7, 99, 10000, 10000), 0);
        due(x.grown(0, 0, 1, 1), 1);
        for (int i = 2; i < 100; i++) due(x.grown(0, 0, 1, 1), i);
        due(x.grown(0, 0, 1, 1), NONE);
        due(x.lay(0, 1), 1);
        promise = 16;
        due(x.made(0, 0, 0, 1, 1), NONE);
        due(x.count(3), 1);
        due(x.count(2), 100);
    }

    private static void bench() {
        fresh(12);
        due(x.lay(0, 1), NONE);
        due(x.grown(0, 0, 1, 10), 0);
        due(x.grown(0, 0, 1, 10), 1);
        due(x.lay(0, 0), NONE);
        due(x.lay(0, -1), NONE);
        due(x.lay(0, 11), NONE);
        due(x.lay(-1, 1), NONE);
        due(x.lay(2, 1), NONE);
        due(x.lay(0, 4), 1);
        due(x.lay(0, 7), NONE);
        due(x.lay(0, 6), 2);
        due(x.lay(0, 1), NONE);
        due(fact(0, 4), 0);
        for (int i = 3; i <= 6; i++) due(x.lay(1, 1), i);
        due(x.lay(1, 1), NONE);
        due(fact(1, 4), 6);
        promise = 15;
        due(x.clear(), 6);
        due(fact(0, 4), 10);
        due(fact(1, 4), 10);
        due(x.clear(), 0);
        due(x.count(3), 0);
        due(fact(0, 4), 10);
        due(x.lay(0, 10), 1);
    }

    private static void heaps() {
        fresh(13);
        due(x.pour(0, 0, 1), NONE);
        due(x.grown(0, 0, 1, 10000), 0);
        due(x.grown(0, 0, 1, 5), 1);
        due(x.pour(-1, 0, 1), NONE);
        due(x.pour(6, 0, 1), NONE);
        due(x.pour(0, 2, 1), NONE);
        due(x.pour(0, -1, 1), NONE);
        due(x.pour(0, 0, 0), NONE);
        due(x.pour(0, 1, 6), NONE);
        due(x.pour(5, 0, 2), 2);
        due(x.pour(5, 1, 5), 7);
        due(x.pour(5, 0, 3), 10);
        due(x.pour(4, 0, 1), 1);
        due(x.pour(5, 1, 1), NONE);
        due(fact(0, 4), 9994);
        due(fact(1, 4), 0);
        promise = 14;
        due(x.draw(6, 1), NONE);
        due(x.draw(-1, 1), NONE);
        due(x.draw(5, 0), NONE);
        due(x.draw(5, -1), NONE);
        due(x.draw(5, 11), NONE);
        due(x.draw(0, 1), NONE);
        due(x.draw(5, 1), 1);
        due(x.draw(5, 3), 3);
        due(fact(0, 4), 9994);
        due(x.made(0, 0, 0, 1, 1), 2);
        due(x.entry(2, 0, 0), 0);
        due(x.entry(2, 0, 1), 1);
        due(x.entry(2, 1, 0), 0);
        due(x.entry(2, 1, 1), 1);
        due(x.entry(2, 2, 0), 1);
        due(x.entry(2, 2, 1), 2);
        due(x.draw(5, 6), 2);
        due(x.draw(5, 1), NONE);
        due(x.clear(), 2);
        due(fact(0, 4), 9997);
        due(fact(1, 4), 3);
        due(x.draw(5, 1), NONE);
        for (int i = 0; i < 7; i++) due(x.pour(1, 0, 1), i + 1);
        due(x.draw(1, 7), NONE);
        due(x.count(3), 0);
        due(x.draw(1, 6), 6);
        due(x.draw(1, 1), NONE);
        due(x.clear(), 6);
        due(x.draw(1, 2), NONE);
        due(x.draw(1, 1), 1);
        heapsApart();
    }

    private static void heapsApart() {
        due(x.clear(), 1);
        promise = 13;
        for (int i = 11; i < 100; i++) due(x.pour(2, 0, 1), i - 10);
        due(x.pour(2, 0, 1), NONE);
        due(x.pour(3, 0, 1), NONE);
        fresh(14);
        due(x.grown(0, 0, 1, 1000), 0);
        for (int i = 0; i < 7; i++) {
            due(x.pour(0, 0, 1), i + 1);
            due(x.pour(1, 0, 10), 10 * i + 10);
        }
        due(x.draw(0, 7), NONE);
        due(x.draw(1, 61), NONE);
        due(x.draw(0, 3), 3);
        due(x.draw(1, 31), NONE);
        due(x.draw(1, 25), 6);
        due(x.made(0, 0, 0, 1, 1), 1);
        due(x.entry(1, 2, 1), 1);
        due(x.entry(1, 3, 1), 10);
        due(x.entry(1, 5, 1), 5);
        due(x.draw(1, 45), 5);
        due(x.draw(0, 2), NONE);
        due(x.draw(0, 1), 6);
        due(x.made(0, 0, 0, 1, 1), 2);
        due(x.entry(2, 0, 1), 5);
    }

    private static void made() {
        fresh(16);
        due(x.grown(1, 2, 3, 100), 0);
        due(x.made(0, 0, 0, 1, 1), NONE);
        due(x.lay(0, 5), 1);
        due(x.made(8, 0, 0, 1, 1), NONE);
        due(x.made(-1, 0, 0, 1, 1), NONE);
        due(x.made(0, 100, 0, 1, 1), NONE);
        due(x.made(0, -1, 0, 1, 1), NONE);
        due(x.made(0, 0, 10, 1, 1), NONE);
        due(x.made(0, 0, -1, 1, 1), NONE);
        due(x.made(0, 0, 0, 0, 1), NONE);
        due(x.made(0, 0, 0, 10001, 1), NONE);
        due(x.made(0, 0, 0, 1, 0), NONE);
        due(x.made(0, 0, 0, 1, 10001), NONE);
        due(x.count(3), 1);
        due(x.made(7, 99, 9, 10000, 10000), 1);
        due(x.count(3), 0);
        due(x.clear(), 0);
        due(fact(0, 4), 95);
        due(x.made(0, 0, 0, 1, 1), NONE);
        due(x.lay(1, 10000), 1);
        due(x.made(0, 0, 0, 1, 1), 2);
    }

    private static void mendAndUndo() {
        fresh(17);
        due(x.mend(0, 5), false);
        due(x.grown(0, 0, 9, 1), 0);
        due(x.mend(0, 0), false);
        due(x.mend(0, 10001), false);
        due(x.mend(1, 5), false);
        due(x.mend(-1, 5), false);
        due(fact(0, 2), 9);
        due(x.mend(0, 10000), true);
        due(fact(0, 2), 10000);
        due(x.mend(0, 1), true);
        due(fact(0, 2), 1);
        for (int i = 2; i < 100; i++) due(x.mend(0, i), true);
        due(x.mend(0, 5), false);
        due(fact(0, 2), 99);
        promise = 18;
        due(x.undo(1), false);
        due(x.undo(-1), false);
        due(fact(0, 8), 0);
        due(x.undo(0), true);
        due(fact(0, 8), 1);
        due(x.undo(0), false);
        due(x.count(9), 1);
        due(x.lay(0, 1), 1);
        due(x.made(0, 0, 0, 1, 1), 1);
        due(x.undo(1), false);
        due(fact(1, 8), 0);
        due(x.count(9), 1);
    }

    private static void told() {
        fresh(19);
        due(x.days(3), 3);
        due(x.grown(1, 2, 3, 40), 0);
        due(x.lay(0, 1), 1);
        due(x.lay(0, 2), 2);
        due(x.days(4), 7);
        due(x.made(5, 6, 7, 8, 9), 1);
        long[] ofGrown = {1, 2, 3, 40, 37, 3, NONE, 0, 0};
        long[] ofMade = {5, 6, 8, 9, 9, 7, 7, 2, 0};
        for (int what = 0; what <= 8; what++) {
            due(fact(0, what), ofGrown[what]);
            due(fact(1, what), ofMade[what]);
        }
        due(x.mend(0, 11), true);
        due(fact(0, 2), 11);
        due(x.ship(0, 7, 2, NONE, 0), 0);
        due(x.pour(0, 0, 10), 10);
        due(fact(0, 4), 20);
        due(fact(0, 9), Long.MIN_VALUE);
        due(fact(0, -1), Long.MIN_VALUE);
        due(fact(2, 0), Long.MIN_VALUE);
        due(fact(-1, 0), Long.MIN_VALUE);
        due(fact(Integer.MAX_VALUE, 0), Long.MIN_VALUE);
    }

    private static void entry() {
        fresh(20);
        due(x.grown(1, 2, 3, 40), 0);
        due(x.grown(1, 2, 3, 40), 1);
        due(x.lay(1, 4), 1);
        due(x.lay(0, 5), 2);
        due(x.lay(1, 6), 3);
        due(x.made(0, 0, 0, 1, 1), 2);
        due(x.entry(2, 0, 0), 1);
        due(x.entry(2, 0, 1), 4);
        due(x.entry(2, 1, 0), 0);
        due(x.entry(2, 1, 1), 5);
        due(x.entry(2, 2, 0), 1);
        due(x.entry(2, 2, 1), 6);
        due(x.entry(2, 3, 0), NONE);
        due(x.entry(2, -1, 0), NONE);
        due(x.entry(2, 0, 2), NONE);
        due(x.entry(2, 0, -1), NONE);
        due(x.entry(0, 0, 0), NONE);
        due(x.entry(3, 0, 0), NONE);
        due(x.entry(-1, 0, 0), NONE);
    }

    private static void own() {
        fresh(20);
        due(x.grown(0, 0, 1, 10000), 0);
        for (int b = 1; b < 100; b++) {
            x.lay(b - 1, 1);
            x.lay(0, b);
            due(x.made(0, 0, 0, 1, 1), b);
        }
        due(x.entry(99, 0, 0), 98);
        due(x.entry(99, 0, 1), 1);
        due(x.entry(99, 1, 0), 0);
        due(x.entry(99, 1, 1), 99);
        due(x.entry(50, 1, 1), 50);
        due(x.entry(99, 2, 0), NONE);
        fresh(21);
        due(x.days(10), 10);
        due(x.grown(2, 0, 10, 100), 0);
        due(x.own(0, 0, 10), 0);
        due(x.days(5), 15);
        due(x.members(0, 4, 10), true);
        due(x.own(0, 0, 14), 0);
        due(x.own(0, 0, 15), 1);
        due(x.own(0, 1, 15), 0);
        due(x.own(0, 0, 10), 0);
        due(x.own(0, 0, 9), NONE);
        due(x.own(0, 0, 16), NONE);
        due(x.own(0, 4, 15), NONE);
        due(x.own(0, -1, 15), NONE);
        due(x.own(1, 0, 15), NONE);
        due(x.own(-1, 0, 15), NONE);
        due(x.members(0, 0, 11), true);
        due(x.own(0, 0, 15), 1);
        due(x.lay(0, 10), 1);
        due(x.made(2, 0, 0, 10, 10), 1);
        due(x.own(1, 0, 15), 0);
        due(x.members(0, 4, 15), true);
        due(x.own(1, 0, 15), 0);
        due(rule(0, 16, "r:1"), 0);
        due(x.own(1, 0, 15), 0);
        due(rule(0, 15, "r:0-1"), 1);
        due(x.own(1, 0, 15), 1);
        due(rule(0, 15, "d:1"), 2);
        due(x.own(1, 0, 15), 0);
        due(rule(0, 15, "r:y=0&p=0&h=0?a=1000?1"), NONE);
        due(rule(0, 15, "r:y=0&p=0&h=0&a=1000?1"), 3);
        due(x.own(1, 0, 15), 1);
        due(x.days(1), 16);
        due(x.undo(0), true);
        due(x.own(0, 0, 15), 1);
        due(x.own(0, 0, 16), 0);
        due(x.own(1, 0, 16), 1);
        due(x.own(1, 3, 16), 0);
        due(x.members(3, 4, 0), true);
        due(rule(3, 0, "r:1"), 4);
        due(x.own(1, 3, 16), 1);
    }

    /** Parts of the web count together, of another web never; each is judged on its own day. */
    private static void chainsOfOwn() {
        fresh(21);
        due(x.members(0, 3, 0), true);
        due(x.members(1, 12, 0), true);
        due(rule(0, 0, "r:n<500?1"), 0);
        due(rule(1, 0, "r:n<500?1"), 1);
        due(x.grown(0, 1, 10, 1000), 0);
        due(x.grown(3, 1, 10, 1000), 1);
        due(x.lay(0, 60), 1);
        due(x.lay(1, 40), 2);
        due(x.made(1, 2, 0, 100, 10), 2);
        due(x.own(2, 0, 0), 1);
        due(x.own(2, 1, 0), 0);
        due(x.days(400), 400);
        due(rule(0, 400, "r:n<100&p=5?1"), 2);
        due(x.lay(2, 5), 1);
        due(x.made(0, 3, 5, 100, 5), 3);
        due(x.own(3, 0, 400), 1);
        due(x.letter(3, 0, 400, 'o'), 1000);
        due(x.lay(2, 4), 1);
        due(x.lay(1, 10), 2);
        due(x.made(0, 3, 5, 100, 5), 4);
        due(x.own(4, 0, 400), 0);
        due(x.letter(4, 0, 400, 'n'), 200);
        due(x.mend(1, 14), true);
        due(x.own(2, 0, 400), 0);
        due(x.own(2, 0, 399), 1);
        due(x.own(3, 0, 400), 0);
        due(x.mend(1, 12), true);
        due(x.own(2, 0, 400), 1);
        due(x.own(3, 0, 400), 1);
        due(x.undo(0), true);
        due(x.own(2, 0, 400), 0);
        due(x.own(3, 0, 400), 0);
    }

    private static void letters() {
        fresh(22);
        due(x.members(0, 3, 0), true);
        due(x.grown(0, 7, 3, 100), 0);
        due(x.grown(1, 8, 7, 100), 1);
        due(x.grown(2, 7, 11, 100), 2);
        due(x.grown(3, 8, 13, 100), 3);
        due(x.lay(0, 10), 1);
        due(x.lay(1, 20), 2);
        due(x.lay(2, 30), 3);
        due(x.lay(3, 40), 4);
        due(x.lay(2, 1), 5);
        due(x.made(0, 7, 4, 17, 101), 4);
        due(x.letter(4, 0, 0, 'a'), (30 + 140 + 330 + 520 + 11) * 1000 / 1717);
        due(x.letter(4, 0, 0, 'n'), (330 + 520 + 11) * 1000 / 1717);
        due(x.letter(4, 0, 0, 'b'), 341 * 1000 / 1717);
        due(x.letter(4, 0, 0, 'o'), 140 * 1000 / 1717);
        due(x.letter(4, 0, 0, 'c'), 3);
        due(x.letter(4, 0, 0, 'h'), 7);
        due(x.letter(4, 0, 0, 'p'), 4);
        due(x.letter(4, 1, 0, 'n'), 1031 * 1000 / 1717);
        due(x.letter(4, 1, 0, 'o'), 0);
        due(x.letter(4, 1, 0, 'c'), 5);
        due(x.letter(4, 0, 0, 'y'), NONE);
        due(x.letter(4, 0, 0, 'x'), NONE);
        due(x.letter(4, 0, 0, 0), NONE);
        due(x.letter(4, 0, 0, 'a' + 256), NONE);
        due(x.letter(4, 0, 0, 'a' + 65536), NONE);
        due(x.letter(4, 0, 0, -1), NONE);
        due(x.letter(0, 0, 0, 'a'), NONE);
        due(x.letter(5, 0, 0, 'a'), NONE);
        due(x.letter(-1, 0, 0, 'a'), NONE);
        due(x.letter(4, 4, 0, 'a'), NONE);
        due(x.letter(4, -1, 0, 'a'), NONE);
        due(x.letter(4, 0, 1, 'a'), NONE);
        due(x.letter(4, 0, -1, 'a'), NONE);
        due(x.days(1), 1);
        due(x.mend(4, 34), true);
        due(x.mend(0, 6), true);
        due(x.letter(4, 0, 1, 'a'), (60 + 140 + 330 + 520 + 11) * 1000 / 3434);
        due(x.letter(4, 0, 0, 'a'), 1031 * 1000 / 1717);
        due(x.grown(0, 0, 10000, 10000), 5);
        due(x.lay(5, 10000), 1);
        due(x.made(0, 0, 0, 9, 1), 6);
        due(x.letter(6, 0, 1, 'a'), 10_000_000);
        due(x.letter(6, 0, 0, 'a'), NONE);
        due(x.lay(6, 1), 1);
        due(x.made(0, 0, 0, 1, 1), 7);
        due(x.letter(7, 1, 1, 'b'), 9000);
    }

    private static void failing() {
        fresh(23);
        due(x.members(0, 1, 0), true);
        due(x.grown(0, 0, 1, 100), 0);
        due(x.grown(1, 0, 1, 100), 1);
        due(x.lay(0, 1), 1);
        due(x.lay(0, 1), 2);
        due(x.lay(1, 1), 3);
        due(x.lay(1, 1), 4);
        due(x.days(2), 2);
        due(x.made(0, 0, 0, 1, 1), 2);
        due(x.failing(2, 0, 2), 2);
        due(x.failing(2, 1, 2), 0);
        due(x.failing(2, 0, 1), NONE);
        due(x.failing(0, 0, 2), NONE);
        due(x.failing(3, 0, 2), NONE);
        due(x.failing(2, 4, 2), NONE);
        due(x.failing(2, 0, 3), NONE);
        due(x.members(0, 3, 0), true);
        due(x.failing(2, 0, 2), NONE);
        due(x.days(1), 3);
        due(x.undo(0), true);
        due(x.failing(2, 0, 3), 0);
        due(x.failing(2, 0, 2), NONE);
        due(x.lay(1, 1), 1);
        due(x.made(0, 0, 0, 1, 1), 3);
        due(x.failing(3, 0, 3), NONE);
    }

    private static void ship() {
        fresh(24);
        due(x.ship(0, 1, 0, NONE, 0), NONE);
        due(x.grown(0, 0, 1, 200), 0);
        due(x.ship(0, 0, 0, NONE, 0), NONE);
        due(x.ship(0, -1, 0, NONE, 0), NONE);
        due(x.ship(0, 201, 0, NONE, 0), NONE);
        due(x.ship(1, 1, 0, NONE, 0), NONE);
        due(x.ship(-1, 1, 0, NONE, 0), NONE);
        due(x.ship(0, 1, 8, NONE, 0), NONE);
        due(x.ship(0, 1, -1, NONE, 0), NONE);
        due(x.ship(0, 1, 0, 4, 0), NONE);
        due(x.ship(0, 1, 0, -2, 0), NONE);
        due(x.ship(0, 1, 0, 0, 401), NONE);
        due(x.ship(0, 1, 0, 0, -1), NONE);
        due(fact(0, 4), 200);
        due(x.ship(0, 50, 7, 3, 400), 0);
        due(fact(0, 4), 150);
        due(x.ship(0, 151, 0, NONE, 0), NONE);
        for (int i = 1; i < 100; i++) due(x.ship(0, 1, 0, NONE, 0), i);
        due(x.ship(0, 1, 0, NONE, 0), NONE);
        due(fact(0, 4), 51);
        due(x.count(4), 100);
    }

    /** Land 0 to land 1 of web 0: stops of 5, papers of 30 days, 10 thousandths. */
    private static void road() {
        x.members(0, 3, 0);
        rule(0, 0, "r:n<500?1;s:5;g:30;d:10");
        x.grown(0, 7, 10, 1000);
    }

    private static void paper() {
        fresh(25);
        due(x.paper(0, 0), false);
        road();
        due(x.days(100), 100);
        due(x.ship(0, 100, 1, 0, 0), 0);
        due(x.state(0, 100), 5);
        due(x.paper(-1, 0), false);
        due(x.paper(1, 0), false);
        due(x.paper(0, -1), false);
        due(x.paper(0, 2001), false);
        due(x.paper(0, 131), true);
        due(x.state(0, 100), 5);
        due(x.paper(0, 130), true);
        due(x.state(0, 100), 1);
        due(x.days(1), 101);
        due(x.paper(0, 2000), true);
        due(x.state(0, 100), 1);
        due(x.state(0, 101), 5);
        due(x.paper(0, 0), true);
        due(x.state(0, 101), 1);
        for (int i = 4; i < 100; i++) due(x.paper(0, 1), true);
        due(x.paper(0, 2000), false);
        due(x.state(0, 101), 1);
    }

    private static void states() {
        fresh(26);
        road();
        due(x.days(10), 10);
        due(x.ship(0, 1, 1, NONE, 400), 0);
        due(x.ship(0, 1, 0, 0, 0), 1);
        due(x.ship(0, 1, 2, 0, 0), 2);
        due(x.ship(0, 1, 1, 0, 6), 3);
        due(x.ship(0, 1, 1, 0, 5), 4);
        due(x.ship(0, 1, 1, 1, 0), 5);
        due(x.paper(4, 40), true);
        long[] due = {0, 2, 2, 4, 1, 2};
        for (int s = 0; s < 6; s++) due(x.state(s, 10), due[s]);
        due(x.state(6, 10), NONE);
        due(x.state(-1, 10), NONE);
        due(x.state(0, 9), NONE);
        due(x.state(0, 11), NONE);
        due(x.state(0, -1), NONE);
        due(x.days(5), 15);
        due(x.undo(0), true);
        due(x.state(4, 14), 1);
        due(x.state(4, 15), 3);
        due(x.state(3, 15), 3);
        due(x.grown(3, 7, 1, 10), 1);
        due(x.ship(1, 1, 1, 0, 0), 6);
        due(x.state(6, 15), 2);
        due(x.days(5), 20);
        due(x.members(0, 2, 10), true);
        due(x.state(4, 20), 2);
        due(x.state(4, 19), 3);
        due(x.members(0, 3, 11), true);
        due(x.state(4, 20), 2);
        due(x.members(0, 3, 10), true);
        due(x.state(4, 20), 3);
        due(x.days(360), 380);
        due(rule(0, 380, "s:h*y;g:0-y"), 1);
        due(x.grown(0, 9, 1, 10), 2);
        due(x.ship(2, 1, 1, 0, 9), 7);
        due(x.ship(2, 1, 1, 0, 10), 8);
        due(x.paper(7, 380), true);
        due(x.state(7, 380), 5);
        due(x.paper(7, 379), true);
        due(x.state(7, 380), 1);
        due(x.state(8, 380), 4);
    }

    private static void quotas() {
        fresh(26);
        due(x.members(0, 7, 0), true);
        due(x.members(1, 7, 0), true);
        due(rule(0, 0, "s:0;g:2000;z:h=1?10"), 0);
        due(rule(1, 0, "s:0;g:2000;z:10"), 1);
        due(x.grown(0, 1, 1, 1000), 0);
        due(x.grown(0, 1, 1, 1000), 1);
        due(x.grown(0, 2, 1, 1000), 2);
        due(x.ship(0, 6, 1, 0, 0), 0);
        due(x.ship(1, 5, 1, 0, 0), 1);
        due(x.ship(1, 4, 1, 0, 0), 2);
        due(x.ship(0, 1, 1, 0, 0), 3);
        due(x.ship(0, 10, 2, 0, 0), 4);
        due(x.ship(0, 10, 1, 1, 0), 5);
        due(x.ship(2, 900, 1, 0, 0), 6);
        due(x.ship(0, 11, 2, 1, 0), 7);
        for (int s = 0; s < 8; s++) due(x.paper(s, 0), true);
        long[] due = {1, 6, 1, 6, 1, 1, 1, 6};
        for (int s = 0; s < 8; s++) due(x.state(s, 0), due[s]);
        due(x.days(5), 5);
        due(x.paper(0, 2000), true);
        due(rule(0, 0, "s:0;g:1000;z:h=1?10"), 2);
        due(x.state(0, 5), 5);
        due(x.state(1, 5), 1);
        due(x.state(2, 5), 1);
        due(x.state(3, 5), 1);
        due(x.state(3, 4), 6);
        due(x.days(354), 359);
        due(x.ship(0, 1, 1, 0, 0), 8);
        due(x.paper(8, 0), true);
        due(x.state(8, 359), 6);
        due(x.days(1), 360);
        due(x.ship(0, 10, 1, 0, 0), 9);
        due(x.paper(9, 0), true);
        due(x.state(9, 360), 1);
        due(rule(0, 360, "s:0;g:1000"), 3);
        due(x.ship(0, 20, 1, 0, 0), 10);
        due(x.paper(10, 0), true);
        due(x.state(10, 360), 1);
        due(x.days(1), 361);
        due(rule(0, 361, "s:0;g:1000;z:31"), 4);
        due(x.ship(0, 2, 1, 0, 0), 11);
        due(x.ship(0, 1, 1, 0, 0), 12);
        due(x.paper(11, 0), true);
        due(x.paper(12, 0), true);
        due(x.state(11, 361), 6);
        due(x.state(12, 361), 1);
        due(rule(1, 361, "s:0;g:1000;z:1"), 5);
        due(x.ship(0, 2, 1, 1, 0), 13);
        due(x.ship(0, 1, 1, 1, 0), 14);
        due(x.paper(13, 0), true);
        due(x.paper(14, 0), true);
        due(x.state(13, 361), 6);
        due(x.state(14, 361), 1);
    }

    private static void duty() {
        fresh(27);
        road();
        due(x.ship(0, 999, 1, 0, 0), 0);
        due(x.ship(0, 1, 2, NONE, 0), 1);
        due(x.duty(0, 0), 999);
        due(x.duty(1, 0), 1);
        due(x.tariff(1, 7, 333), true);
        due(x.duty(0, 0), 3326);
        due(x.paper(0, 0), true);
        due(x.duty(0, 0), 99);
        due(x.days(2), 2);
        due(x.mend(0, 10000), true);
        due(x.duty(0, 1), 99);
        due(x.duty(0, 2), 99900);
        due(x.duty(1, 2), 1000);
        due(rule(0, 0, "s:5;g:5;d:h*1000"), 1);
        due(x.duty(0, 2), 9990000);
        due(x.duty(0, 1), 99);
        due(rule(0, 0, "s:5;g:5;d:h-8"), 2);
        due(x.duty(0, 2), 0);
        due(x.duty(2, 2), NONE);
        due(x.duty(-1, 2), NONE);
        due(x.duty(0, 3), NONE);
        due(x.duty(0, -1), NONE);
        due(x.ship(0, 1, 1, 0, 0), NONE);
        due(x.grown(0, 0, 10000, 10000), 1);
        due(x.ship(1, 10000, 7, NONE, 0), 2);
        due(x.duty(2, 1), NONE);
        due(x.tariff(7, 0, 1000), true);
        due(x.duty(2, 2), 100_000_000);
        fresh(27);
        due(x.members(0, 3, 0), true);
        due(rule(0, 0, "r:a;g:0;d:17+a+n+b+o+c+p"), 0);
        due(x.grown(1, 7, 10, 1000), 0);
        due(x.lay(0, 10), 1);
        due(x.made(0, 7, 5, 10, 100), 1);
        due(x.ship(1, 100, 1, 0, 0), 0);
        due(x.paper(0, 0), true);
        due(x.duty(0, 0), 17);
    }

    private static void book() {
        fresh(28);
        due(x.book(), 0);
        road();
        due(x.ship(0, 100, 1, 0, 0), 0);
        due(x.ship(0, 200, 1, 0, 0), 1);
        due(x.tariff(1, 7, 0), true);
        due(x.book(), 0);
        due(x.tariff(1, 7, 500), true);
        due(x.book(), 2);
        due(x.book(), 0);
        due(x.days(4), 4);
        due(x.paper(0, 0), true);
        due(x.book(), 1);
        due(x.mend(0, 20), true);
        due(x.book(), 2);
        promise = 29;
        long[][] due = {{0, 500, 0}, {1, 1000, 0}, {0, -490, 4}, {0, 10, 4}, {1, 1000, 4}};
        for (int i = 0; i < 5; i++) for (int what = 0; what < 3; what++) due(x.line(i, what), due[i][what]);
        due(x.line(5, 0), -1_000_000_000_000L);
        due(x.line(-1, 0), -1_000_000_000_000L);
        due(x.line(0, 3), -1_000_000_000_000L);
        due(x.line(0, -1), -1_000_000_000_000L);
        promise = 39;
        due(x.count(5), 5);
        due(x.count(6), 2);
    }

    private static void bookLimit() {
        fresh(28);
        due(x.grown(0, 0, 10000, 10000), 0);
        for (int i = 0; i < 66; i++) due(x.ship(0, 100, 1, NONE, 0), i);
        for (int i = 1; i <= 6; i++) {
            due(x.tariff(1, 0, i), true);
            due(x.book(), 66);
        }
        due(x.count(5), 396);
        due(x.tariff(1, 0, 0), true);
        due(x.book(), NONE);
        due(x.count(5), 396);
        due(x.tariff(1, 0, 6), true);
        due(x.book(), 0);
        for (int i = 0; i < 4; i++) due(x.ship(0, 1, 2, NONE, 0), 66 + i);
        due(x.book(), 4);
        due(x.count(5), 400);
        due(x.ship(0, 1, 2, NONE, 0), 70);
        due(x.book(), NONE);
        due(x.tariff(2, 0, 0), true);
        due(x.book(), NONE);
        due(x.line(399, 0), 69);
        due(x.line(400, 0), -1_000_000_000_000L);
    }

    /** One line more than there may be, by shipment 0. */
    private static void bookFull() {
        fresh(28);
        due(x.grown(0, 0, 10000, 10000), 0);
        due(x.grown(0, 1, 10000, 10000), 1);
        due(x.ship(1, 100, 1, NONE, 0), 0);
        for (int i = 1; i < 100; i++) due(x.ship(0, 100, 1, NONE, 0), i);
        due(x.book(), 100);
        for (int i = 1; i <= 3; i++) {
            due(x.tariff(1, 0, i), true);
            due(x.tariff(1, 1, i), true);
            due(x.book(), 100);
        }
        due(x.book(), 0);
        due(x.tariff(1, 1, 9), true);
        due(x.book(), NONE);
        due(x.count(5), 400);
        due(x.line(400, 0), -1_000_000_000_000L);
    }

    private static void offers() {
        fresh(30);
        due(x.offer(-1, 0, 0, 0, 0), NONE);
        due(x.offer(4, 0, 0, 0, 0), NONE);
        due(x.offer(1, 0, 0, 0, 0), NONE);
        due(x.offer(0, -1, 0, 0, 0), NONE);
        due(x.offer(0, 1000001, 0, 0, 0), NONE);
        due(x.offer(0, 0, -1, 0, 0), NONE);
        due(x.offer(0, 0, 100, 0, 0), NONE);
        due(x.offer(0, 0, 0, -1, 0), NONE);
        due(x.offer(0, 0, 0, 16, 0), NONE);
        due(x.offer(0, 0, 0, 0, -1), NONE);
        due(x.offer(0, 0, 0, 0, 8), NONE);
        due(x.best(0, 0, 0, 1, 1), NONE);
        due(x.offer(0, 1000000, 99, 15, 7), 0);
        due(x.offer(2, 0, 0, 0, 0), NONE);
        due(x.offer(1, 0, 0, 0, 0), 0);
        due(x.offer(2, 0, 0, 0, 0), 0);
        due(x.offer(3, 0, 0, 0, 0), 0);
        due(x.offer(4, 0, 0, 0, 0), NONE);
        due(x.offer(0, 5, 0, 0, 0), 1);
        due(x.offer(0, 6, 0, 0, 0), 2);
        due(x.offer(0, 7, 0, 0, 0), 3);
        due(x.offer(0, 4, 0, 0, 0), NONE);
        due(x.best(0, 0, 0, 10, 1), 6);
        promise = 31;
        x.offers();
        due(x.best(0, 0, 0, 10, 1), NONE);
        due(x.chosen(0, 0, 0, 10, 1, 0), NONE);
        due(x.offer(1, 0, 0, 0, 0), NONE);
        due(x.offer(0, 4, 0, 0, 0), 0);
    }

    private static void best() {
        fresh(32);
        due(x.offer(0, 5, 1, 0, 0), 0);
        due(x.offer(0, 3, 1, 0, 0), 1);
        due(x.offer(0, 3, 1, 0, 0), 2);
        due(x.best(8, 0, 0, 1, 1), NONE);
        due(x.best(-1, 0, 0, 1, 1), NONE);
        due(x.best(0, 100, 0, 1, 1), NONE);
        due(x.best(0, -1, 0, 1, 1), NONE);
        due(x.best(0, 0, 10, 1, 1), NONE);
        due(x.best(0, 0, -1, 1, 1), NONE);
        due(x.best(0, 0, 0, 0, 1), NONE);
        due(x.best(0, 0, 0, 1000001, 1), NONE);
        due(x.best(0, 0, 0, 1, 8), NONE);
        due(x.best(0, 0, 0, 1, -1), NONE);
        due(x.best(0, 0, 0, 1000000, 1), 100003);
        due(x.best(0, 0, 0, 9, 1), 3);
        due(x.best(7, 99, 9, 10, 7), 4);
        due(x.tariff(1, 0, 0), true);
        due(x.best(0, 0, 0, 1000000, 1), 3);
        promise = 33;
        due(x.chosen(0, 0, 0, 1, 1, 0), 1);
        due(x.chosen(0, 0, 0, 1, 1, 1), NONE);
        due(x.chosen(0, 0, 0, 1, 1, -1), NONE);
        due(x.chosen(0, 0, 0, 1, 1, 4), NONE);
        due(x.chosen(8, 0, 0, 1, 1, 0), NONE);
        due(x.chosen(0, 100, 0, 1, 1, 0), NONE);
        due(x.chosen(0, 0, 10, 1, 1, 0), NONE);
        due(x.chosen(0, 0, 0, 0, 1, 0), NONE);
        due(x.chosen(0, 0, 0, 1, 8, 0), NONE);
        due(x.offer(1, 9, 1, 0, 0), 0);
        due(x.offer(1, 9, 1, 0, 0), 1);
        due(x.chosen(0, 0, 0, 1, 1, 0), 1);
        due(x.chosen(0, 0, 0, 1, 1, 1), 0);
        x.offers();
        due(x.offer(0, 10, 0, 0, 0), 0);
        due(x.offer(0, 5, 0, 1, 0), 1);
        due(x.offer(1, 5, 0, 1, 0), 0);
        due(x.offer(1, 0, 0, 0, 0), 1);
        due(x.offer(1, 5, 0, 0, 0), 2);
        due(x.members(0, 3, 0), true);
        due(rule(0, 0, "r:c=1?1"), 0);
        due(x.tariff(1, 0, 1000), true);
        due(x.best(0, 0, 0, 5, 1), 5);
        due(x.chosen(0, 0, 0, 5, 1, 0), 1);
        due(x.chosen(0, 0, 0, 5, 1, 1), 1);
        x.offers();
        due(rule(0, 0, "r:0;d:0"), 1);
        due(x.offer(0, 5, 0, 0, 0), 0);
        due(x.offer(0, 5, 0, 0, 0), 1);
        due(x.best(0, 0, 0, 5, 1), 10);
        due(x.chosen(0, 0, 0, 5, 1, 0), 0);
    }

    private static void bestOfWebs() {
        fresh(32);
        due(x.members(0, 3, 0), true);
        due(x.members(1, 3, 0), true);
        due(x.members(2, 1, 0), true);
        due(rule(0, 0, "r:n<300&p=4&h=50?1;d:30+y"), 0);
        due(rule(1, 0, "r:o=200?b-400;d:h-30"), 1);
        due(rule(2, 0, "r:1;d:0"), 2);
        due(x.offer(0, 400, 50, 1, 1), 0);
        due(x.offer(0, 420, 50, 0, 1), 1);
        due(x.offer(1, 200, 60, 3, 4), 0);
        due(x.best(0, 50, 4, 1000, 1), 630);
        due(x.chosen(0, 50, 4, 1000, 1, 0), 0);
        due(x.best(0, 50, 3, 1000, 1), 640);
        due(x.chosen(0, 50, 3, 1000, 1, 0), 1);
        due(rule(0, 0, "r:n<300&p=4&h=50?1;d:10+y"), 3);
        due(x.best(0, 50, 4, 1000, 1), 610);
        due(x.best(0, 50, 3, 1000, 1), 640);
        due(x.best(0, 51, 4, 1000, 1), 621);
        due(x.best(1, 50, 4, 1000, 0), 610);
        due(x.best(0, 50, 4, 1000, 0), 700);
        due(x.best(0, 50, 4, 1000, 2), 700);
        due(x.tariff(1, 50, 5), true);
        due(x.best(0, 50, 4, 1000, 1), 605);
        due(x.tariff(1, 50, 900), true);
        due(x.best(0, 50, 4, 666, 1), 606);
        due(x.days(720), 720);
        due(x.best(0, 50, 4, 1000, 1), 612);
        due(rule(0, 721, "r:1;d:0"), 4);
        due(x.best(0, 50, 4, 1000, 1), 612);
        due(rule(0, 720, "r:1;d:0"), 5);
        due(x.best(0, 50, 4, 1000, 1), 600);
        due(rule(0, 720, "r:1;d:0-5"), 6);
        due(x.best(0, 50, 4, 1000, 1), 600);
        due(x.best(0, 0, 4, 1000, 0), 700);
        due(x.members(0, 1, 720), true);
        due(x.best(0, 50, 4, 1000, 1), 640);
    }

    private static void moved() {
        fresh(34);
        due(x.moved(0, 0), NONE);
        due(x.members(0, 3, 0), true);
        due(rule(0, 0, "r:p<2?1"), 0);
        due(rule(1, 0, "r:1"), 1);
        due(x.grown(0, 1, 10, 1000), 0);
        due(x.grown(4, 1, 10, 1000), 1);
        for (int p = 0; p < 4; p++) {
            due(x.lay(0, 10), 1);
            due(x.made(0, 2, p, 10, 10), p + 2);
        }
        due(x.lay(5, 1), 1);
        due(x.made(1, 2, 0, 10, 1), 6);
        due(x.lay(0, 1), 1);
        due(x.made(4, 2, 0, 10, 1), 7);
        due(x.moved(0, 0), 0);
        due(x.moved(0, 1), 0);
        due(x.moved(1, 1), 0);
        due(rule(0, 2000, "r:p=1|p=3?1;r:c=0?1"), 2);
        due(x.moved(2, 0), 0);
        due(x.moved(2, 1), 2);
        due(rule(0, 2000, "r:p=3|c>0?1"), 3);
        due(x.moved(3, 0), 3);
        due(x.moved(3, 1), 1);
        due(x.moved(4, 0), NONE);
        due(x.moved(-1, 0), NONE);
        due(x.moved(0, 2), NONE);
        due(x.moved(0, -1), NONE);
        due(x.own(5, 0, 0), 0);
        due(x.own(6, 0, 0), 1);
        due(x.days(1), 1);
        due(x.undo(0), true);
        due(x.moved(3, 0), 1);
        due(x.moved(3, 1), 2);
    }

    private static void strikes(int batch, int... words) {
        due(x.struck(batch), words.length);
        for (int i = 0; i < words.length; i++) due(x.strike(batch, i), words[i]);
        due(x.strike(batch, words.length), NONE);
        due(x.strike(batch, -1), NONE);
    }

    private static void words() {
        fresh(35);
        due(x.word(0, 1), NONE);
        due(x.grown(0, 0, 1, 100), 0);
        due(x.grown(0, 0, 1, 10), 1);
        due(x.word(0, 0), NONE);
        due(x.word(0, 10001), NONE);
        due(x.word(-1, 1), NONE);
        due(x.word(2, 1), NONE);
        promise = 36;
        strikes(0);
        due(x.word(0, 40), 0);
        due(x.word(1, 10), 1);
        due(x.word(0, 60), 2);
        strikes(0);
        strikes(1);
        due(x.word(0, 10), 3);
        strikes(0, 0);
        due(x.word(0, 35), 4);
        strikes(0, 2);
        due(x.word(0, 30), 5);
        promise = 37;
        strikes(0, 0, 2);
        due(x.word(1, 10000), 6);
        strikes(1, 6);
        due(x.word(1, 1), 7);
        strikes(1, 1, 6);
        due(x.strike(2, 0), NONE);
        due(x.struck(2), NONE);
        due(x.struck(-1), NONE);
        for (int i = 8; i < 15; i++) due(x.word(0, 100), i);
        strikes(0, 0, 2, 8, 9, 10, 11, 12, 13, 14);
        due(x.word(0, 1), 15);
        due(x.struck(0), NONE);
        due(x.strike(0, 0), NONE);
        strikes(1, 1, 6);
        manyWords();
        promise = 35;
        for (int i = 16; i < 60; i++) due(x.word(1, 1), i);
        due(x.word(1, 1), NONE);
        due(x.count(7), 60);
    }

    /** Of several fewest sets the one with the lowest words, though greater words stand behind. */
    private static void manyWords() {
        MadeWhere before = x;
        fresh(37);
        int[][] mosts = {{40, 0, 2, 4, 7}, {34, 1, 2, 4, 7}, {50, 2, 4, 7}, {92, 1, 2}, {33, 1, 2, 4, 7}, {1, 0, 1, 2, 3, 4, 5, 6, 7}};
        for (int batch = 0; batch < mosts.length; batch++) {
            due(x.grown(0, 0, 1, mosts[batch][0]), batch);
            for (int n : new int[] {7, 12, 30, 5, 30, 11, 9, 30}) x.word(batch, n);
            int[] struck = new int[mosts[batch].length - 1];
            for (int i = 0; i < struck.length; i++) struck[i] = mosts[batch][i + 1] + 8 * batch;
            strikes(batch, struck);
        }
        x = before;
    }

    private static void checks() {
        fresh(38);
        due(x.members(0, 3, 0), true);
        due(rule(0, 0, "r:1;s:400;g:2000;d:10"), 0);
        due(x.grown(0, 7, 10, 1000), 0);
        due(x.grown(4, 7, 10, 1000), 1);
        due(x.lay(1, 99), 1);
        due(x.made(0, 7, 0, 10, 100), 2);
        due(x.ship(0, 1, 1, 0, 0), 0);
        due(x.ship(0, 1, 1, NONE, 0), 1);
        due(x.ship(2, 1, 1, 0, 0), 2);
        due(x.ship(0, 1, 1, 0, 0), 3);
        for (int s = 0; s < 4; s++) due(x.paper(s, 0), true);
        due(x.check(0, 1, 0), NONE);
        due(x.check(Integer.MIN_VALUE, 1, 0), NONE);
        due(x.check(Integer.MAX_VALUE, 1, 0), NONE);
        due(x.check(-1, 1, 0), NONE);
        due(x.check(4, 1, 0), NONE);
        due(x.check(3, 1, 3), NONE);
        due(x.check(3, 1, -1), NONE);
        due(x.letter(2, 0, 0, 'n'), 990);
        int[] weights = {1, 0, 10, 1};
        for (long seed : new long[] {0, 1, 2, 3, 77, -1, Long.MIN_VALUE, Long.MAX_VALUE, 123456789012345L}) {
            int[] left = weights.clone();
            long at = seed;
            for (int i = 0; i < 3; i++) {
                at = at * 6364136223846793005L + 1442695040888963407L;
                long place = (at >>> 33) % (left[0] + left[2] + left[3]);
                int drawn = place < left[0] ? 0 : place < left[0] + left[2] ? 2 : 3;
                left[drawn] = 0;
                due(x.check(3, seed, i), drawn);
                due(x.check(i + 1, seed, i), drawn);
            }
        }
        due(x.undo(0), true);
        due(x.check(1, 9, 0), 2);
        due(x.check(2, 9, 0), NONE);
    }

    private static void counts() {
        fresh(39);
        due(x.days(3), 3);
        road();
        due(x.undo(0), true);
        due(x.grown(0, 7, 10, 1000), 1);
        due(x.lay(1, 2), 1);
        due(x.made(0, 1, 1, 1, 1), 2);
        due(x.lay(1, 2), 1);
        due(x.lay(1, 2), 2);
        due(x.ship(1, 500, 1, 0, 0), 0);
        due(x.ship(1, 100, 1, 0, 0), 1);
        due(x.ship(1, 1, 1, 0, 0), 2);
        due(x.paper(1, 0), true);
        due(x.tariff(1, 7, 900), true);
        due(x.book(), 3);
        due(x.word(1, 1), 0);
        due(x.feed(1, 2, 3, 4, 0), 4);
        long[] due = {3, 1, 3, 2, 3, 3, 4, 1, 4, 1, 1};
        for (int what = 0; what <= 10; what++) due(x.count(what), due[what]);
        due(x.count(11), NONE);
        due(x.count(-1), NONE);
    }
}
