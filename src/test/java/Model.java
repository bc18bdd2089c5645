import java.util.ArrayList;
import java.util.Arrays;
import java.util.HashMap;
import java.util.List;
import java.util.Map;
import java.util.NoSuchElementException;

/** The document once more, told apart from the program: slow, with the library, texts read while they are weighed. */
final class Model {
    static final int NONE = -1;

    record Members(int web, int lands, int from, int on) { }
    record Protocol(int web, String text, int from, int on) { }
    record Price(int batch, int price, int on) { }
    record Paper(int shipment, int day, int on) { }
    record Entry(int batch, int many) { }
    record Pouring(int batch, int[] rest) { }
    record Shipment(int batch, int many, int land, int web, int stops, int on) { }
    record Line(int shipment, long coins, int day) { }
    record Offer(int coins, int heading, int webs, int land) { }
    record Word(int batch, int many) { }

    static final class Batch {
        int land, heading, price, many, left, on, process = NONE, undone = NONE;
        List<Entry> entries = List.of();
    }

    int now;
    final List<Members> members = new ArrayList<>();
    final List<Protocol> protocols = new ArrayList<>();
    StringBuilder tape = new StringBuilder();
    final int[][] tariff = new int[8][100];
    final List<Batch> batches = new ArrayList<>();
    final List<Entry> bench = new ArrayList<>();
    final List<List<Pouring>> heaps = new ArrayList<>();
    int pourings;
    final List<Price> prices = new ArrayList<>();
    final List<Shipment> shipments = new ArrayList<>();
    final List<Paper> papers = new ArrayList<>();
    final List<Line> lines = new ArrayList<>();
    final List<List<Offer>> parts = new ArrayList<>();
    final List<Word> words = new ArrayList<>();

    Model() {
        for (int[] row : tariff) Arrays.fill(row, 100);
        for (int i = 0; i < 6; i++) heaps.add(new ArrayList<>());
        for (int i = 0; i < 4; i++) parts.add(new ArrayList<>());
    }

    static boolean in(long x, long a, long b) { return a <= x && x <= b; }

    int days(int n) { return in(n, 0, 1000) && now + n <= 2000 ? now += n : NONE; }

    boolean members(int web, int lands, int from) {
        return in(web, 0, 3) && in(lands, 0, 255) && in(from, 0, 2000) && members.size() < 40
            && members.add(new Members(web, lands, from, now));
    }

    int memberSet(int web, int day, int q) {
        Members best = null;
        for (Members m : members)
            if (m.web == web && m.on <= q && m.from <= day && (best == null || m.from >= best.from)) best = m;
        return best == null ? 0 : best.lands;
    }

    boolean isMember(int web, int land, int day, int q) { return (memberSet(web, day, q) & (1 << land)) != 0; }

    int member(int web, int day, int q) {
        return in(web, 0, 3) && in(day, 0, 2000) && in(q, 0, now) ? memberSet(web, day, q) : NONE;
    }

    int feed(int a, int b, int c, int d, int e) {
        StringBuilder t = new StringBuilder(tape);
        for (int v : new int[] {a, b, c, d, e})
            for (byte x : java.nio.ByteBuffer.allocate(4).putInt(v).array()) if (x != 0) t.append((char) (x & 255));
        if (t.length() > 200) return NONE;
        tape = t;
        return tape.length();
    }

    boolean end(int n) {
        if (!in(n, 0, tape.length())) return false;
        tape.setLength(n);
        return true;
    }

    int fault() { return Grammar.fault(tape.toString()); }

    int protocol(int web, int from) {
        if (fault() != NONE || !in(web, 0, 3) || !in(from, 0, 2000) || protocols.size() == 20) return NONE;
        protocols.add(new Protocol(web, tape.toString(), from, now));
        tape.setLength(0);
        return protocols.size() - 1;
    }

    int forced(int web, int day, int q) {
        int best = NONE;
        for (int i = 0; i < protocols.size(); i++) {
            Protocol p = protocols.get(i);
            if (p.web == web && p.on <= q && p.from <= day && (best < 0 || p.from >= protocols.get(best).from)) best = i;
        }
        return best;
    }

    int force(int web, int day, int q) {
        return in(web, 0, 3) && in(day, 0, 2000) && in(q, 0, now) ? forced(web, day, q) : NONE;
    }

    long worth(int protocol, char label, Map<Character, Long> letters) {
        return protocol == NONE ? 0 : new Weigher(letters).worth(protocols.get(protocol).text, label);
    }

    /** Reads a text that has no fault and weighs it as it goes. */
    static final class Weigher {
        final Map<Character, Long> letters;
        String t;
        int i;
        Weigher(Map<Character, Long> letters) { this.letters = letters; }

        long worth(String text, char label) {
            for (String clause : text.split(";")) {
                if (clause.trim().charAt(0) != label) continue;
                String body = clause.substring(clause.indexOf(':') + 1);
                int mark = body.indexOf('?');
                if (mark < 0) return sumOf(body);
                t = body.substring(0, mark).replace(" ", "");
                i = 0;
                if (condition()) return sumOf(body.substring(mark + 1));
            }
            return 0;
        }

        long sumOf(String s) { t = s.replace(" ", ""); i = 0; return sum(); }
        char c() { return i < t.length() ? t.charAt(i) : 0; }
        static long bound(long x) { return Math.max(-10_000_000, Math.min(10_000_000, x)); }

        boolean condition() {
            boolean v = part();
            while (c() == '|') { i++; boolean w = part(); v = v || w; }
            return v;
        }

        boolean part() {
            boolean v = unit();
            while (c() == '&') { i++; boolean w = unit(); v = v && w; }
            return v;
        }

        boolean unit() {
            if (c() == '!') { i++; return !unit(); }
            if (c() == '(') { i++; boolean v = condition(); i++; return v; }
            long a = sum();
            char s = c();
            i++;
            long b = sum();
            return s == '=' ? a == b : s == '<' ? a < b : a > b;
        }

        long sum() {
            long v = term();
            while (c() == '+' || c() == '-') v = t.charAt(i++) == '+' ? bound(v + term()) : bound(v - term());
            return v;
        }

        long term() {
            long v = atom();
            while (c() == '*' || c() == '/') {
                char s = t.charAt(i++);
                long w = atom();
                v = bound(s == '*' ? v * w : w == 0 ? 0 : v / w);
            }
            return v;
        }

        long atom() {
            if (c() == '[') { i++; long v = sum(); i++; return v; }
            if (Character.isLetter(c())) return letters.getOrDefault(t.charAt(i++), 0L);
            int from = i;
            while (c() >= '0' && c() <= '9') i++;
            return Long.parseLong(t.substring(from, i));
        }
    }

    boolean tariff(int land, int heading, int thousandths) {
        if (!in(land, 0, 7) || !in(heading, 0, 99) || !in(thousandths, 0, 1000)) return false;
        tariff[land][heading] = thousandths;
        return true;
    }

    Batch newBatch(int land, int heading, int price, int many) {
        if (!in(land, 0, 7) || !in(heading, 0, 99) || !in(price, 1, 10000) || !in(many, 1, 10000)
            || batches.size() == 100) return null;
        Batch b = new Batch();
        b.land = land; b.heading = heading; b.price = price; b.many = many; b.left = many; b.on = now;
        return b;
    }

    int grown(int land, int heading, int price, int many) {
        Batch b = newBatch(land, heading, price, many);
        if (b == null) return NONE;
        batches.add(b);
        return batches.size() - 1;
    }

    boolean has(int batch) { return in(batch, 0, batches.size() - 1); }

    int lay(int batch, int many) {
        if (!has(batch) || many < 1 || many > batches.get(batch).left || bench.size() == 6) return NONE;
        batches.get(batch).left -= many;
        bench.add(new Entry(batch, many));
        return bench.size();
    }

    int pour(int heap, int batch, int many) {
        if (!in(heap, 0, 5) || !has(batch) || many < 1 || many > batches.get(batch).left || pourings == 100) return NONE;
        pourings++;
        batches.get(batch).left -= many;
        heaps.get(heap).add(new Pouring(batch, new int[] {many}));
        return lying(heap);
    }

    int lying(int heap) { return heaps.get(heap).stream().mapToInt(p -> p.rest[0]).sum(); }

    int draw(int heap, int n) {
        if (!in(heap, 0, 5) || n < 1 || n > lying(heap)) return NONE;
        List<Entry> drawn = new ArrayList<>();
        List<Pouring> after = new ArrayList<>();
        int left = n;
        for (Pouring p : heaps.get(heap)) {
            int k = Math.min(left, p.rest[0]);
            left -= k;
            if (k > 0) drawn.add(new Entry(p.batch, k));
            if (k < p.rest[0]) after.add(new Pouring(p.batch, new int[] {p.rest[0] - k}));
        }
        if (bench.size() + drawn.size() > 6) return NONE;
        bench.addAll(drawn);
        heaps.set(heap, after);
        return bench.size();
    }

    int clear() {
        int n = bench.size();
        for (Entry e : bench) batches.get(e.batch).left += e.many;
        bench.clear();
        return n;
    }

    int made(int land, int heading, int process, int price, int many) {
        Batch b = newBatch(land, heading, price, many);
        if (b == null || !in(process, 0, 9) || bench.isEmpty()) return NONE;
        b.process = process;
        b.entries = new ArrayList<>(bench);
        bench.clear();
        batches.add(b);
        return batches.size() - 1;
    }

    boolean mend(int batch, int price) {
        return has(batch) && in(price, 1, 10000) && prices.size() < 100 && prices.add(new Price(batch, price, now));
    }

    boolean undo(int batch) {
        if (!has(batch) || batches.get(batch).process != NONE || batches.get(batch).undone != NONE) return false;
        batches.get(batch).undone = now;
        return true;
    }

    long priceOf(int batch, int q) {
        for (int i = prices.size() - 1; i >= 0; i--)
            if (prices.get(i).batch == batch && prices.get(i).on <= q) return prices.get(i).price;
        return batches.get(batch).price;
    }

    int told(int batch, int what) {
        if (!has(batch) || !in(what, 0, 8)) throw new NoSuchElementException();
        Batch b = batches.get(batch);
        return new int[] {b.land, b.heading, (int) priceOf(batch, now), b.many, b.left, b.on, b.process,
            b.entries.size(), b.undone == NONE ? 0 : 1}[what];
    }

    int entry(int batch, int i, int what) {
        if (!has(batch) || !in(i, 0, batches.get(batch).entries.size() - 1) || !in(what, 0, 1)) return NONE;
        Entry e = batches.get(batch).entries.get(i);
        return what == 0 ? e.batch : e.many;
    }

    boolean isOwn(int batch, int web, int q, int supposed, Map<Integer, Boolean> known) {
        Boolean k = known.get(batch);
        if (k != null) return k;
        Batch b = batches.get(batch);
        boolean v;
        if (!isMember(web, b.land, b.on, q)) v = false;
        else if (b.process == NONE) v = b.undone == NONE || b.undone > q;
        else v = worth(supposed == NONE ? forced(web, b.on, q) : supposed, 'r', letters(batch, web, q, supposed, known)) != 0;
        known.put(batch, v);
        return v;
    }

    boolean isOwn(int batch, int web, int q) { return isOwn(batch, web, q, NONE, new HashMap<>()); }

    Map<Character, Long> letters(int batch, int web, int q, int supposed, Map<Integer, Boolean> known) {
        Batch b = batches.get(batch);
        List<long[]> entries = new ArrayList<>();
        for (Entry e : b.entries) {
            Batch o = batches.get(e.batch);
            entries.add(new long[] {priceOf(e.batch, q) * e.many, o.heading, o.land,
                isOwn(e.batch, web, q, supposed, known) ? 1 : 0});
        }
        return letters(entries, b.land, b.heading, b.process, priceOf(batch, q) * b.many);
    }

    static Map<Character, Long> letters(List<long[]> entries, int land, int heading, int process, long whole) {
        long a = 0, n = 0, same = 0, o = 0, c = 0;
        for (long[] e : entries) {
            a += e[0];
            if (e[3] == 0) n += e[0];
            if (e[3] == 0 && e[1] == heading) same += e[0];
            if (e[3] != 0 && e[2] != land) o += e[0];
            if (e[3] == 0) c++;
        }
        Map<Character, Long> m = new HashMap<>();
        m.put('a', Math.min(10_000_000, a * 1000 / whole));
        m.put('n', Math.min(10_000_000, n * 1000 / whole));
        m.put('b', Math.min(10_000_000, same * 1000 / whole));
        m.put('o', Math.min(10_000_000, o * 1000 / whole));
        m.put('c', c);
        m.put('h', (long) heading);
        m.put('p', (long) process);
        return m;
    }

    boolean asked(int batch, int web, int q) {
        return has(batch) && in(web, 0, 3) && in(q, 0, now) && batches.get(batch).on <= q;
    }

    int own(int batch, int web, int q) { return !asked(batch, web, q) ? NONE : isOwn(batch, web, q) ? 1 : 0; }

    int letter(int batch, int web, int q, int letter) {
        if (!asked(batch, web, q) || batches.get(batch).process == NONE || letter < 1 || letter > 127
            || "anbochp".indexOf(letter) < 0) return NONE;
        return (int) (long) letters(batch, web, q, NONE, new HashMap<>()).get((char) letter);
    }

    int failing(int batch, int web, int q) {
        if (!asked(batch, web, q)) return NONE;
        List<Entry> entries = batches.get(batch).entries;
        for (int i = 0; i < entries.size(); i++) if (!isOwn(entries.get(i).batch, web, q)) return i;
        return NONE;
    }

    int ship(int batch, int many, int land, int web, int stops) {
        if (!has(batch) || many < 1 || many > batches.get(batch).left || !in(land, 0, 7) || !in(web, -1, 3)
            || !in(stops, 0, 400) || shipments.size() == 100) return NONE;
        batches.get(batch).left -= many;
        shipments.add(new Shipment(batch, many, land, web, stops, now));
        return shipments.size() - 1;
    }

    boolean paper(int shipment, int day) {
        return in(shipment, 0, shipments.size() - 1) && in(day, 0, 2000) && papers.size() < 100
            && papers.add(new Paper(shipment, day, now));
    }

    Map<Character, Long> tradeLetters(int heading, int day) {
        Map<Character, Long> m = new HashMap<>();
        m.put('h', (long) heading);
        m.put('y', (long) (day / 360));
        return m;
    }

    long worthFor(Shipment s, int q, char label) {
        return worth(forced(s.web, s.on, q), label, tradeLetters(batches.get(s.batch).heading, s.on));
    }

    /** The state but for quotas: 1 where quotas are to be asked. */
    int stateBefore(int shipment, int q) {
        Shipment s = shipments.get(shipment);
        Batch b = batches.get(s.batch);
        if (s.web == NONE) return 0;
        if (b.land == s.land || !isMember(s.web, b.land, s.on, q) || !isMember(s.web, s.land, s.on, q)) return 2;
        if (!isOwn(s.batch, s.web, q)) return 3;
        if (s.stops > worthFor(s, q, 's')) return 4;
        Paper p = null;
        for (Paper x : papers) if (x.shipment == shipment && x.on <= q) p = x;
        if (p == null || p.day > s.on + worthFor(s, q, 'g')) return 5;
        return 1;
    }

    int stateOf(int shipment, int q) {
        int first = stateBefore(shipment, q);
        if (first != 1) return first;
        Shipment me = shipments.get(shipment);
        long taken = 0;
        for (int i = 0; i <= shipment; i++) {
            Shipment s = shipments.get(i);
            if (s.web != me.web || s.land != me.land || s.on / 360 != me.on / 360
                || batches.get(s.batch).heading != batches.get(me.batch).heading || stateBefore(i, q) != 1) continue;
            long z = worthFor(s, q, 'z');
            boolean takes = z <= 0 || taken + s.many <= z;
            if (takes) taken += s.many;
            if (i == shipment) return takes ? 1 : 6;
        }
        throw new AssertionError();
    }

    boolean sent(int shipment, int q) {
        return in(shipment, 0, shipments.size() - 1) && in(q, 0, now) && shipments.get(shipment).on <= q;
    }

    int state(int shipment, int q) { return sent(shipment, q) ? stateOf(shipment, q) : NONE; }

    long dutyOf(int shipment, int q) {
        Shipment s = shipments.get(shipment);
        long rate = tariff[s.land][batches.get(s.batch).heading];
        if (stateOf(shipment, q) == 1) rate = Math.max(0, Math.min(1000, worthFor(s, q, 'd')));
        return priceOf(s.batch, q) * s.many * rate / 1000;
    }

    long duty(int shipment, int q) { return sent(shipment, q) ? dutyOf(shipment, q) : NONE; }

    int book() {
        List<Line> more = new ArrayList<>();
        for (int i = 0; i < shipments.size(); i++) {
            long booked = 0;
            for (Line l : lines) if (l.shipment == i) booked += l.coins;
            long d = dutyOf(i, now) - booked;
            if (d != 0) more.add(new Line(i, d, now));
        }
        if (lines.size() + more.size() > 400) return NONE;
        lines.addAll(more);
        return more.size();
    }

    long line(int i, int what) {
        if (!in(i, 0, lines.size() - 1) || !in(what, 0, 2)) return -1_000_000_000_000L;
        Line l = lines.get(i);
        return what == 0 ? l.shipment : what == 1 ? l.coins : l.day;
    }

    int offer(int part, int coins, int heading, int webs, int land) {
        if (!in(part, 0, 3) || !in(coins, 0, 1_000_000) || !in(heading, 0, 99) || !in(webs, 0, 15) || !in(land, 0, 7)
            || parts.get(part).size() == 4 || part > 0 && parts.get(part - 1).isEmpty()) return NONE;
        parts.get(part).add(new Offer(coins, heading, webs, land));
        return parts.get(part).size() - 1;
    }

    void offers() { for (List<Offer> p : parts) p.clear(); }

    /** Cost, then the offer of each part. */
    long[] bestOf(int land, int heading, int process, int price, int to, int part, int[] pick) {
        if (part == 4 || parts.get(part).isEmpty()) {
            long[] r = new long[5];
            List<long[]> coins = new ArrayList<>();
            for (int i = 0; i < part; i++) {
                Offer o = parts.get(i).get(pick[i]);
                r[0] += o.coins;
                r[i + 1] = pick[i];
                coins.add(new long[] {o.coins, o.heading, o.land, o.webs});
            }
            long rate = tariff[to][heading];
            for (int w = 0; w < 4; w++) {
                if (land == to || !isMember(w, land, now, now) || !isMember(w, to, now, now)) continue;
                List<long[]> entries = new ArrayList<>();
                for (long[] c : coins) entries.add(new long[] {c[0], c[1], c[2], c[3] >> w & 1});
                int p = forced(w, now, now);
                if (worth(p, 'r', letters(entries, land, heading, process, price)) == 0) continue;
                rate = Math.min(rate, Math.max(0, Math.min(1000, worth(p, 'd', tradeLetters(heading, now)))));
            }
            r[0] += price * rate / 1000;
            return r;
        }
        long[] best = null;
        for (int k = 0; k < parts.get(part).size(); k++) {
            pick[part] = k;
            long[] r = bestOf(land, heading, process, price, to, part + 1, pick);
            if (best == null || r[0] < best[0]) best = r;
        }
        return best;
    }

    long[] bestOf(int land, int heading, int process, int price, int to) {
        if (parts.get(0).isEmpty() || !in(land, 0, 7) || !in(heading, 0, 99) || !in(process, 0, 9)
            || !in(price, 1, 1_000_000) || !in(to, 0, 7)) return null;
        return bestOf(land, heading, process, price, to, 0, new int[4]);
    }

    long best(int land, int heading, int process, int price, int to) {
        long[] r = bestOf(land, heading, process, price, to);
        return r == null ? NONE : r[0];
    }

    int chosen(int land, int heading, int process, int price, int to, int part) {
        long[] r = bestOf(land, heading, process, price, to);
        return r == null || !in(part, 0, 3) || parts.get(part).isEmpty() ? NONE : (int) r[part + 1];
    }

    int moved(int protocol, int what) {
        if (!in(protocol, 0, protocols.size() - 1) || !in(what, 0, 1)) return NONE;
        int web = protocols.get(protocol).web, n = 0;
        Map<Integer, Boolean> supposed = new HashMap<>();
        for (int b = 0; b < batches.size(); b++) {
            boolean is = isOwn(b, web, now), would = isOwn(b, web, now, protocol, supposed);
            if (batches.get(b).process != NONE && is != would && would == (what == 1)) n++;
        }
        return n;
    }

    int word(int batch, int many) {
        if (!has(batch) || !in(many, 1, 10000) || words.size() == 60) return NONE;
        words.add(new Word(batch, many));
        return words.size() - 1;
    }

    /** All sets tried; null when refused. */
    List<Integer> struckOf(int batch) {
        if (!has(batch)) return null;
        List<Integer> of = new ArrayList<>();
        for (int i = 0; i < words.size(); i++) if (words.get(i).batch == batch) of.add(i);
        if (of.size() > 12) return null;
        List<Integer> best = null;
        for (int set = 0; set < 1 << of.size(); set++) {
            List<Integer> struck = new ArrayList<>();
            long rest = 0;
            for (int i = 0; i < of.size(); i++) {
                if ((set >> i & 1) != 0) struck.add(of.get(i)); else rest += words.get(of.get(i)).many;
            }
            if (rest > batches.get(batch).many) continue;
            if (best == null || struck.size() < best.size() || struck.size() == best.size() && lower(struck, best)) best = struck;
        }
        return best;
    }

    static boolean lower(List<Integer> x, List<Integer> y) {
        for (int i = 0; i < 60; i++) if (x.contains(i) != y.contains(i)) return x.contains(i);
        return false;
    }

    int struck(int batch) { List<Integer> s = struckOf(batch); return s == null ? NONE : s.size(); }

    int strike(int batch, int i) {
        List<Integer> s = struckOf(batch);
        return s == null || !in(i, 0, s.size() - 1) ? NONE : s.get(i);
    }

    int check(int n, long seed, int i) {
        List<Integer> open = new ArrayList<>();
        for (int s = 0; s < shipments.size(); s++) if (stateOf(s, now) == 1) open.add(s);
        if (n < 1 || n > open.size() || !in(i, 0, n - 1)) return NONE;
        long x = seed;
        for (int k = 0; ; k++) {
            x = x * 6364136223846793005L + 1442695040888963407L;
            List<Integer> tickets = new ArrayList<>();
            long sum = 0;
            for (int s : open) sum += weight(s);
            long place = (x >>> 33) % sum;
            int at = 0;
            while (place >= weight(open.get(at))) place -= weight(open.get(at++));
            int drawn = open.remove(at);
            if (k == i) return drawn;
        }
    }

    long weight(int shipment) {
        Shipment s = shipments.get(shipment);
        if (batches.get(s.batch).process == NONE) return 1;
        return 1 + letters(s.batch, s.web, now, NONE, new HashMap<>()).get('n') / 100;
    }

    int count(int what) {
        switch (what) {
            case 0: return now;
            case 1: return protocols.size();
            case 2: return batches.size();
            case 3: return bench.size();
            case 4: return shipments.size();
            case 5: return lines.size();
            case 6: return (int) (lines.stream().mapToLong(Line::coins).sum() / 1000);
            case 7: return words.size();
            case 8: return tape.length();
            case 9: return (int) batches.stream().filter(b -> b.undone != NONE).count();
            case 10: {
                int n = 0;
                for (int s = 0; s < shipments.size(); s++) if (stateOf(s, now) == 1) n++;
                return n;
            }
            default: return NONE;
        }
    }
}
