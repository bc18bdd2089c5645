import java.util.ArrayList;
import java.util.List;

/** Two objects with the same past, one of them called once more: afterwards they must answer alike. */
final class Twins {
    interface Past { void tell(MadeWhere x); }
    interface Call { long on(MadeWhere x); }

    /** What is asked or done afterwards: each answer is kept. Every future stays under 270 calls. */
    interface Future { void live(MadeWhere x, List<Long> answers); }

    private final Sheet sheet;
    private final Past past;
    private final List<Future> futures = List.of(Twins::stock, Twins::origin, Twins::border, Twins::others, Twins::goOn, Twins::fillUp,
        Twins::fillMore);

    Twins(Sheet sheet, Past past) {
        this.sheet = sheet;
        this.past = past;
    }

    /** The call answers so, and changes nothing. */
    void still(String call, Call made, long want) {
        for (Future f : futures) {
            MadeWhere one = new MadeWhere();
            MadeWhere other = new MadeWhere();
            past.tell(one);
            past.tell(other);
            sheet.of("refused: " + call);
            sheet.due(made.on(other), want);
            sheet.of("changed by: " + call);
            compare(lived(f, one), lived(f, other));
        }
    }

    /** The call changes nothing, whatever it answers. */
    void asked(String call, Call made) {
        MadeWhere x = new MadeWhere();
        past.tell(x);
        still(call, made, made.on(x));
    }

    private static List<Long> lived(Future f, MadeWhere x) {
        List<Long> answers = new ArrayList<>();
        f.live(x, answers);
        return answers;
    }

    private void compare(List<Long> one, List<Long> other) {
        sheet.due(other.size(), one.size());
        for (int i = 0; i < Math.min(one.size(), other.size()); i++) sheet.due(other.get(i), one.get(i));
    }

    private static long yes(boolean b) { return b ? 1 : 0; }

    private static void stock(MadeWhere x, List<Long> a) {
        for (int what = 0; what <= 10; what++) a.add((long) x.count(what));
        for (int b = 0; b < 14; b++) for (int what = 0; what < 9; what++) a.add(Sheet.fact(x, b, what));
        for (int b = 0; b < 14; b++) for (int i = 0; i < 3; i++) for (int what = 0; what < 2; what++) a.add((long) x.entry(b, i, what));
        a.add((long) x.fault());
    }

    private static void origin(MadeWhere x, List<Long> a) {
        int now = x.count(0);
        for (int b = 0; b < 12; b++) {
            for (int web = 0; web < 2; web++) {
                for (int q = Math.max(0, now - 3); q <= now; q += 3) {
                    a.add((long) x.own(b, web, q));
                    a.add((long) x.failing(b, web, q));
                    for (char letter : "ano".toCharArray()) a.add((long) x.letter(b, web, q, letter));
                }
            }
        }
    }

    private static void border(MadeWhere x, List<Long> a) {
        int now = x.count(0);
        for (int s = 0; s < 12; s++) {
            for (int q = Math.max(0, now - 3); q <= now; q += 3) {
                a.add((long) x.state(s, q));
                a.add(x.duty(s, q));
            }
        }
        for (int i = 0; i < 20; i++) for (int what = 0; what < 3; what++) a.add(x.line(i, what));
        for (int web = 0; web < 4; web++) {
            for (int day = 0; day <= 2000; day += 500) {
                a.add((long) x.member(web, day, now));
                a.add((long) x.force(web, day, now));
                a.add((long) x.force(web, day, 0));
            }
        }
    }

    private static void others(MadeWhere x, List<Long> a) {
        for (int land = 0; land < 4; land++) {
            for (int to = 0; to < 4; to++) {
                a.add(x.best(land, 7, 1, 1000, to));
                for (int part = 0; part < 4; part++) a.add((long) x.chosen(land, 7, 1, 1000, to, part));
            }
        }
        for (int p = 0; p < 6; p++) for (int what = 0; what < 2; what++) a.add((long) x.moved(p, what));
        for (int b = 0; b < 12; b++) {
            a.add((long) x.struck(b));
            for (int i = 0; i < 3; i++) a.add((long) x.strike(b, i));
        }
        for (int i = 0; i < 5; i++) a.add((long) x.check(i + 1, 99, i));
    }

    private static void goOn(MadeWhere x, List<Long> a) {
        a.add((long) x.feed(0x2B310000, 0, 0, 0, 0));
        a.add((long) x.fault());
        a.add((long) x.protocol(0, 1));
        a.add((long) x.count(8));
        a.add((long) x.count(3));
        for (int heap = 0; heap < 6; heap++) {
            for (int n = 16; n >= 1; n /= 2) a.add((long) x.draw(heap, n));
            a.add((long) x.made(heap, 7, heap, 10, 20));
            a.add((long) x.clear());
        }
        for (int b = 0; b < 12; b++) {
            a.add((long) x.lay(b, 1));
            a.add((long) x.pour(b % 6, b, 1));
            a.add((long) x.ship(b, 1, 1, 0, 1));
        }
        a.add((long) x.clear());
        for (int s = 0; s < 12; s++) a.add(yes(x.paper(s, 40)));
        a.add((long) x.book());
        for (int b = 0; b < 12; b++) {
            a.add(yes(x.mend(b, 50 + b)));
            a.add(yes(x.undo(b)));
        }
        a.add((long) x.book());
        for (int part = 0; part < 4; part++) a.add((long) x.offer(part, part, 7, 15, 1));
        a.add(x.best(0, 7, 1, 1000, 1));
        for (int b = 0; b < 4; b++) {
            a.add((long) x.word(b, 9));
            a.add((long) x.struck(b));
        }
        a.add((long) x.days(1));
        a.add(yes(x.end(1)));
        for (int what = 0; what <= 10; what++) a.add((long) x.count(what));
        for (int i = 0; i < 30; i++) a.add(x.line(i, 1));
    }

    /** How much more may be told, till it is refused. */
    private static void fillUp(MadeWhere x, List<Long> a) {
        long told = 0;
        while (told < 50 && x.members(3, 1, 0)) told++;
        a.add(told);
        x.end(0);
        for (told = 0; told < 30; told++) {
            x.feed(0x723A3100, 0, 0, 0, 0);
            if (x.protocol(3, 0) == MadeWhere.NONE) break;
        }
        a.add(told);
        told = 0;
        while (told < 70 && x.word(0, 1) != MadeWhere.NONE) told++;
        a.add(told);
        int grown = x.grown(0, 0, 1, 10000);
        told = 0;
        while (told < 110 && grown != MadeWhere.NONE && x.pour(0, grown, 1) != MadeWhere.NONE) told++;
        a.add(told);
    }

    private static void fillMore(MadeWhere x, List<Long> a) {
        long told = 0;
        while (told < 110 && x.mend(0, 5)) told++;
        a.add(told);
        told = 0;
        while (told < 110 && x.paper(0, 0)) told++;
        a.add(told);
        told = 0;
        while (told < 60 && x.grown(1, 1, 1, 1) != MadeWhere.NONE) told++;
        a.add(told);
    }
}
