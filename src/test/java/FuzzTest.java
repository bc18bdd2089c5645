import java.util.ArrayList;
import java.util.List;
import java.util.NoSuchElementException;
import java.util.Random;

/** Runs of calls drawn from seeds, each answer against the model. */
public final class FuzzTest {
    private final Random random;
    private final MadeWhere x = new MadeWhere();
    private final Model m = new Model();
    private final List<String> log = new ArrayList<>();
    private final int lands;
    private final int headings;
    private final int webs;
    private final int stepDays;
    private final int dear;
    private final int wild;
    private final int[] taste = new int[14];
    private boolean wrong;
    static final long[] seen = new long[64];

    FuzzTest(long seed) {
        random = new Random(seed);
        lands = 2 + random.nextInt(4);
        headings = 1 + random.nextInt(3);
        webs = 1 + random.nextInt(3);
        stepDays = new int[] {1, 5, 60, 300}[random.nextInt(4)];
        dear = new int[] {3, 20, 300, 10000}[random.nextInt(4)];
        wild = new int[] {0, 2, 10}[random.nextInt(3)];
        for (int i = 0; i < taste.length; i++) taste[i] = 1 + random.nextInt(10);
    }

    public static void main(String[] args) {
        int runs = args.length > 0 ? Integer.parseInt(args[0]) : 1500;
        long first = args.length > 1 ? Long.parseLong(args[1]) : 0;
        int bad = 0;
        for (long seed = first; seed < first + runs && bad < 5; seed++) {
            FuzzTest run = new FuzzTest(seed);
            run.all();
            if (run.wrong) {
                bad++;
                System.out.println("seed " + seed + ":");
                for (String s : run.log.subList(Math.max(0, run.log.size() - 12), run.log.size())) System.out.println("  " + s);
            }
        }
        StringBuilder s = new StringBuilder("states and answers seen:");
        for (int i = 0; i < 16; i++) s.append(' ').append(seen[i]);
        System.out.println(s);
        for (int i = 0; i < 16; i++) if (seen[i] == 0) bad++;
        System.out.println(bad == 0 ? runs + " runs are as due" : bad + " runs are not as due");
        if (bad != 0) System.exit(1);
    }

    private int some(int n) { return random.nextInt(Math.max(1, n)); }

    /** Now and then something out of bounds. */
    private int odd(int value) {
        if (wild == 0 || random.nextInt(100) >= wild) return value;
        int[] odds = {-1, -2, 0, 7, 8, 100, 101, 2001, 10001, 1000001, Integer.MAX_VALUE, Integer.MIN_VALUE, value + 1, value - 1};
        return odds[some(odds.length)];
    }

    private void due(String call, long got, long want) {
        log.add(call + " = " + got + (got == want ? "" : ", due is " + want));
        if (got != want) wrong = true;
    }

    private void due(String call, boolean got, boolean want) { due(call, got ? 1 : 0, want ? 1 : 0); }

    private int land() { return odd(some(lands)); }
    private int heading() { return odd(some(headings)); }
    private int web() { return odd(some(webs)); }
    private int batch() {
        int n = m.batches.size();
        return odd(random.nextInt(3) == 0 ? some(n) : Math.max(0, n - 1 - some(6)));
    }
    private int shipment() { return odd(some(m.shipments.size())); }
    private int q() { return odd(random.nextInt(2) == 0 ? m.now : some(m.now + 1)); }
    private int day() { return odd(random.nextInt(2) == 0 ? m.now : some(2001)); }
    private int price() { return odd(1 + some(dear)); }

    void all() {
        start();
        while (log.size() < 512 && !wrong) {
            int sum = 0;
            for (int t : taste) sum += t;
            int at = some(sum);
            int k = 0;
            while (at >= taste[k]) at -= taste[k++];
            call(k);
        }
    }

    private void start() {
        for (int w = 0; w < webs; w++) {
            int set = random.nextInt(4) == 0 ? some(256) : (1 << lands) - 1;
            due("members(" + w + "," + set + ",0)", x.members(w, set, 0), m.members(w, set, 0));
            tell(rule(), w, 0);
        }
        for (int i = 0; i < 3; i++) grow();
    }

    private String rule() {
        String[] rules = {
            "r:c=0|n<" + some(900) + "?1;d:" + some(200) + ";s:" + some(300) + ";g:" + some(60) + ";z:" + some(40),
            "r:n<" + some(2000) + "&!(b>" + some(500) + "|o>" + some(800) + ")?1;d:h*3+y;s:9;g:5-y;z:[h+1]*" + some(30),
            "r:h=p?a;r:n-" + some(1000) + ";d:" + some(1200) + "-y*100;s:h*100;g:30;z:y=0?10;z:20",
            "r:a>b*2?[a-n]/o;r:c<3?1;d:0-5;s:400;g:2000",
            "r:1;s:400;g:2000;d:y*100;z:" + some(100),
            "r:[a+b]*[n+1]/[o+1]-c*100000/3; d : 50 ; s:400; g:99999; z: 0-1",
        };
        int k = some(10);
        if (k < rules.length) return rules[k];
        if (k == 6) return "r:0";
        Texts texts = new Texts(random, random.nextInt(3) == 0);
        String s = random.nextInt(4) == 0 ? texts.broken(1 + some(3)) : texts.sound(1 + some(3));
        return s.length() > 160 ? "r:n<500?1;s:100;g:100;d:7" : s + ";s:400;g:400;d:20";
    }

    private void feed(String text) {
        for (int at = 0; at < text.length(); at += 20) {
            int[] n = Tapes.numbers(text.substring(at, Math.min(text.length(), at + 20)));
            due("feed(\"" + text + "\" at " + at + ")", x.feed(n[0], n[1], n[2], n[3], n[4]), m.feed(n[0], n[1], n[2], n[3], n[4]));
        }
    }

    private void tell(String text, int web, int from) {
        if (random.nextInt(10) != 0) due("end(0)", x.end(0), m.end(0));
        feed(text);
        due("fault()", x.fault(), m.fault());
        due("protocol(" + web + "," + from + ")", x.protocol(web, from), m.protocol(web, from));
    }

    private void grow() {
        int l = land(), h = heading(), p = price(), n = odd(1 + some(random.nextBoolean() ? 100 : 10000));
        due("grown(" + l + "," + h + "," + p + "," + n + ")", x.grown(l, h, p, n), m.grown(l, h, p, n));
    }

    private int part(int batch) {
        int left = m.has(batch) ? m.batches.get(batch).left : 5;
        return odd(1 + some(Math.max(1, left / (1 + some(6)))));
    }

    private void lay() {
        int b = batch(), n = part(b);
        due("lay(" + b + "," + n + ")", x.lay(b, n), m.lay(b, n));
    }

    private void call(int k) {
        switch (k) {
            case 0: grow(); break;
            case 1: bench(); break;
            case 2: heap(); break;
            case 3: change(); break;
            case 4: ask(); break;
            case 5: ship(); break;
            case 6: askShipments(); break;
            case 7: source(); break;
            case 8: words(); break;
            case 9: draws(); break;
            case 10: time(); break;
            case 11: rules(); break;
            case 12: counts(); break;
            default: book(); break;
        }
    }

    private void bench() {
        int n = 1 + some(4);
        for (int i = 0; i < n; i++) lay();
        if (random.nextInt(8) == 0) due("clear()", x.clear(), m.clear());
        int l = land(), h = heading(), p = odd(some(10)), c = price(), many = odd(1 + some(50));
        due("made(" + l + "," + h + "," + p + "," + c + "," + many + ")", x.made(l, h, p, c, many), m.made(l, h, p, c, many));
    }

    private void heap() {
        int heap = odd(some(3));
        if (random.nextInt(3) != 0) {
            int b = batch(), n = part(b);
            due("pour(" + heap + "," + b + "," + n + ")", x.pour(heap, b, n), m.pour(heap, b, n));
        } else {
            int n = odd(1 + some(Model.in(heap, 0, 5) ? m.lying(heap) + 2 : 9));
            due("draw(" + heap + "," + n + ")", x.draw(heap, n), m.draw(heap, n));
            if (random.nextInt(6) == 0) due("clear()", x.clear(), m.clear());
        }
    }

    private void change() {
        int b = batch();
        if (random.nextInt(3) == 0) {
            due("undo(" + b + ")", x.undo(b), m.undo(b));
        } else {
            int p = price();
            due("mend(" + b + "," + p + ")", x.mend(b, p), m.mend(b, p));
        }
    }

    private void ask() {
        int b = batch(), w = web(), q = q();
        switch (some(5)) {
            case 0: {
                int got = x.own(b, w, q);
                if (got >= 0) seen[7 + got]++;
                due("own(" + b + "," + w + "," + q + ")", got, m.own(b, w, q));
                break;
            }
            case 1: {
                int l = odd("anbochpyz".charAt(some(9)));
                due("letter(" + b + "," + w + "," + q + "," + l + ")", x.letter(b, w, q, l), m.letter(b, w, q, l));
                break;
            }
            case 2: due("failing(" + b + "," + w + "," + q + ")", x.failing(b, w, q), m.failing(b, w, q)); break;
            case 3: {
                int what = odd(some(9));
                due("told(" + b + "," + what + ")", told(b, what), toldOfModel(b, what));
                break;
            }
            default: {
                int i = odd(some(6)), what = odd(some(2));
                due("entry(" + b + "," + i + "," + what + ")", x.entry(b, i, what), m.entry(b, i, what));
            }
        }
    }

    private long told(int b, int what) {
        try { return x.told(b, what); } catch (NoSuchElementException e) { return Long.MIN_VALUE; }
    }

    private long toldOfModel(int b, int what) {
        try { return m.told(b, what); } catch (NoSuchElementException e) { return Long.MIN_VALUE; }
    }

    private void ship() {
        int b = batch(), n = odd(1 + some(12)), l = land(), w = random.nextInt(10) == 0 ? -1 : web(), s = odd(some(12) == 0 ? some(401) : some(9));
        due("ship(" + b + "," + n + "," + l + "," + w + "," + s + ")", x.ship(b, n, l, w, s), m.ship(b, n, l, w, s));
        if (random.nextInt(4) != 0) {
            int p = random.nextInt(3) == 0 ? shipment() : m.shipments.size() - 1, d = odd(Math.min(2000, m.now + some(random.nextBoolean() ? 4 : 60)));
            due("paper(" + p + "," + d + ")", x.paper(p, d), m.paper(p, d));
        }
    }

    private void askShipments() {
        int s = shipment(), q = q();
        int got = x.state(s, q);
        if (got >= 0) seen[got]++;
        due("state(" + s + "," + q + ")", got, m.state(s, q));
        due("duty(" + s + "," + q + ")", x.duty(s, q), m.duty(s, q));
    }

    private void source() {
        if (random.nextInt(20) == 0) {
            log.add("offers()");
            x.offers();
            m.offers();
        }
        int more = some(4);
        for (int i = 0; i < more; i++) {
            int part = odd(some(4)), c = odd(some(dear * 3)), h = heading(), w = odd(some(1 << webs)), l = land();
            due("offer(" + part + "," + c + "," + h + "," + w + "," + l + ")", x.offer(part, c, h, w, l), m.offer(part, c, h, w, l));
        }
        int l = land(), h = heading(), p = odd(some(10)), c = odd(1 + some(dear * 8)), to = land();
        long got = x.best(l, h, p, c, to);
        String call = "(" + l + "," + h + "," + p + "," + c + "," + to;
        due("best" + call + ")", got, m.best(l, h, p, c, to));
        if (got >= 0) seen[9]++;
        int part = odd(some(4));
        due("chosen" + call + "," + part + ")", x.chosen(l, h, p, c, to, part), m.chosen(l, h, p, c, to, part));
    }

    private void words() {
        int b = random.nextInt(3) == 0 ? batch() : some(3);
        int n = odd(1 + some(m.has(b) ? m.batches.get(b).many : 9));
        if (random.nextInt(3) != 0) due("word(" + b + "," + n + ")", x.word(b, n), m.word(b, n));
        int got = x.struck(b);
        if (got > 1) seen[10]++;
        due("struck(" + b + ")", got, m.struck(b));
        int i = odd(some(3));
        due("strike(" + b + "," + i + ")", x.strike(b, i), m.strike(b, i));
    }

    private void draws() {
        int all = m.count(10);
        int n = odd(1 + some(all)), i = odd(some(n));
        long seed = random.nextLong();
        int got = x.check(n, seed, i);
        if (got >= 0) seen[11]++;
        due("check(" + n + "," + seed + "," + i + ")", got, m.check(n, seed, i));
    }

    private void time() {
        int n = odd(random.nextInt(3) == 0 ? some(stepDays * 2) : some(3));
        due("days(" + n + ")", x.days(n), m.days(n));
    }

    private void rules() {
        int w = web(), d = day(), q = q();
        switch (some(7)) {
            case 0: {
                int set = odd(random.nextBoolean() ? (1 << lands) - 1 : some(256));
                due("members(" + w + "," + set + "," + d + ")", x.members(w, set, d), m.members(w, set, d));
                break;
            }
            case 1: due("member(" + w + "," + d + "," + q + ")", x.member(w, d, q), m.member(w, d, q)); break;
            case 2: tell(rule(), w, d); break;
            case 3: due("force(" + w + "," + d + "," + q + ")", x.force(w, d, q), m.force(w, d, q)); break;
            case 4: {
                int l = land(), h = heading(), t = odd(some(1001));
                due("tariff(" + l + "," + h + "," + t + ")", x.tariff(l, h, t), m.tariff(l, h, t));
                break;
            }
            case 5: {
                int n = odd(some(m.tape.length() + 1));
                due("end(" + n + ")", x.end(n), m.end(n));
                due("fault()", x.fault(), m.fault());
                break;
            }
            default: {
                int p = odd(some(m.protocols.size())), what = odd(some(2));
                int got = x.moved(p, what);
                if (got > 0) seen[12 + what]++;
                due("moved(" + p + "," + what + ")", got, m.moved(p, what));
            }
        }
    }

    private void counts() {
        int what = odd(some(11));
        due("count(" + what + ")", x.count(what), m.count(what));
    }

    private void book() {
        int got = x.book();
        if (got > 0) seen[14]++;
        due("book()", got, m.book());
        int i = odd(some(m.lines.size())), what = odd(some(3));
        long coins = x.line(i, what);
        if (what == 1 && coins < 0) seen[15]++;
        due("line(" + i + "," + what + ")", coins, m.line(i, what));
    }
}
