import java.util.NoSuchElementException;

/** Where goods are made: batches, webs of lands and their protocols, duties, sourcing, words, draws. */
public final class MadeWhere {
    public static final int NONE = -1;

    private static final int LAST_DAY = 2000;
    private static final int YEAR_DAYS = 360;
    private static final int LANDS = 8;
    private static final int LAND_SETS = 256;
    private static final int WEBS = 4;
    private static final int WEB_SETS = 16;
    private static final int HEADINGS = 100;
    private static final int PROCESSES = 10;
    private static final int HEAPS = 6;
    private static final int BATCHES = 100;
    private static final int ENTRIES = 6;
    private static final int SHIPMENTS = 100;
    private static final int LINES = 400;
    private static final int PARTS = 4;
    private static final int OFFERS = 4;
    private static final int WORDS = 60;
    private static final int WORDS_ASKED = 12;
    private static final int MOST_COINS = 10_000;
    private static final int MOST_MANY = 10_000;
    private static final int MOST_OFFERED = 1_000_000;
    private static final int BYTES = 200;
    private static final int THOUSAND = 1000;
    private static final int LARGEST = 10_000_000;
    private static final long NO_LINE = -1_000_000_000_000L;

    private static final String LETTERS = "anbochpy";
    private static final int LETTER_COUNT = 8;
    private static final int ALL = 0;
    private static final int FOREIGN = 1;
    private static final int ALIKE = 2;
    private static final int ABROAD = 3;
    private static final int STRANGERS = 4;
    private static final int HEADING = 5;
    private static final int PROCESS = 6;
    private static final int YEAR = 7;

    private static final int UNCLAIMED = 0;
    private static final int PREFERRED = 1;
    private static final int OUTSIDE = 2;
    private static final int NOT_OWN = 3;
    private static final int STOPPED = 4;
    private static final int NO_PAPER = 5;
    private static final int OVER_QUOTA = 6;

    private int now;
    private final Tape tape;
    private final Webs webs;
    private final Stock stock;
    private final Yard yard;
    private final Origin origin;
    private final Border border;
    private final Sourcing sourcing;
    private final Words words;

    public MadeWhere() {
        tape = new Tape();
        border = new Border();
        origin = border.origin;
        webs = origin.webs;
        stock = origin.stock;
        yard = new Yard();
        sourcing = new Sourcing();
        words = new Words();
    }

    public int days(int n) {
        if (!within(n, 0, 1000) || now + n > LAST_DAY) {
            return NONE;
        }
        now += n;
        return now;
    }

    public boolean members(int web, int lands, int from) {
        return within(lands, 0, LAND_SETS - 1) && webs.tellMembers(web, lands, from, now);
    }

    public int member(int web, int day, int q) {
        return isAsked(web, day, q) ? webs.membersOn(web, day, q) : NONE;
    }

    public int feed(int a, int b, int c, int d, int e) {
        return tape.take(a, b, c, d, e);
    }

    public boolean end(int n) {
        return tape.cut(n);
    }

    public int fault() {
        return tape.findFault();
    }

    public int protocol(int web, int from) {
        if (tape.findFault() != NONE) {
            return NONE;
        }
        int number = webs.tellProtocol(web, from, now, tape);
        if (number != NONE) {
            tape.cut(0);
        }
        return number;
    }

    public int force(int web, int day, int q) {
        return isAsked(web, day, q) ? webs.protocols.inForce(web, day, q) : NONE;
    }

    public boolean tariff(int land, int heading, int thousandths) {
        if (!isPlace(land, heading) || !within(thousandths, 0, THOUSAND)) {
            return false;
        }
        border.setTariff(land, heading, thousandths);
        return true;
    }

    public int grown(int land, int heading, int price, int many) {
        return isGood(land, heading, price, many) ? stock.add(land, heading, price, many, now) : NONE;
    }

    public int lay(int batch, int many) {
        return yard.layLeft(stock, batch, many);
    }

    public int pour(int heap, int batch, int many) {
        return yard.pourLeft(stock, heap, batch, many);
    }

    public int draw(int heap, int n) {
        return yard.drawFrom(heap, n);
    }

    public int clear() {
        return yard.giveBack(stock);
    }

    public int made(int land, int heading, int process, int price, int many) {
        if (!isGood(land, heading, price, many) || !within(process, 0, PROCESSES - 1) || yard.laid == 0) {
            return NONE;
        }
        int batch = stock.add(land, heading, price, many, now);
        if (batch != NONE) {
            yard.useUp(stock, batch, process);
        }
        return batch;
    }

    public boolean mend(int batch, int price) {
        return stock.has(batch) && within(price, 1, MOST_COINS) && stock.mends.tell(batch, price, now);
    }

    public boolean undo(int batch) {
        return stock.has(batch) && stock.undoProof(batch, now);
    }

    public int told(int batch, int what) throws NoSuchElementException {
        if (!stock.has(batch) || !within(what, 0, 8)) {
            throw new NoSuchElementException();
        }
        return stock.fact(batch, what, now);
    }

    public int entry(int batch, int i, int what) {
        if (!stock.has(batch) || !within(i, 0, stock.entries[batch] - 1)) {
            return NONE;
        }
        switch (what) {
            case 0: return stock.partOf(batch, i);
            case 1: return stock.manyOf(batch, i);
            default: return NONE;
        }
    }

    public int own(int batch, int web, int q) {
        if (!isKnown(batch, web, q)) {
            return NONE;
        }
        origin.judge(web, q, NONE);
        return origin.isOwn(web, batch) ? 1 : 0;
    }

    public int letter(int batch, int web, int q, int letter) {
        int place = placeOf(letter);
        if (place == NONE || place == YEAR || !isMadeKnown(batch, web, q)) {
            return NONE;
        }
        origin.judge(web, q, NONE);
        return origin.letterOf(web, batch, place);
    }

    public int failing(int batch, int web, int q) {
        if (!isMadeKnown(batch, web, q)) {
            return NONE;
        }
        origin.judge(web, q, NONE);
        return origin.firstForeign(web, batch);
    }

    public int ship(int batch, int many, int land, int web, int stops) {
        boolean told = stock.canTake(batch, many) && within(land, 0, LANDS - 1)
            && within(web, NONE, WEBS - 1) && within(stops, 0, 400);
        return told ? border.send(batch, many, land, web, stops, now) : NONE;
    }

    public boolean paper(int shipment, int day) {
        return border.has(shipment) && within(day, 0, LAST_DAY) && border.papers.tell(shipment, day, now);
    }

    public int state(int shipment, int q) {
        if (!isSent(shipment, q)) {
            return NONE;
        }
        border.judge(q);
        return border.states[shipment];
    }

    public long duty(int shipment, int q) {
        if (!isSent(shipment, q)) {
            return NONE;
        }
        border.judge(q);
        return border.dutyOf(shipment, q);
    }

    public int book() {
        border.judge(now);
        return border.bookLines(now);
    }

    public long line(int i, int what) {
        return border.factOfLine(i, what);
    }

    public int offer(int part, int coins, int heading, int webs, int land) {
        if (!within(coins, 0, MOST_OFFERED) || !within(webs, 0, WEB_SETS - 1) || !isPlace(land, heading)) {
            return NONE;
        }
        return sourcing.add(part, coins, heading, webs, land);
    }

    public void offers() {
        sourcing.drop();
    }

    public long best(int land, int heading, int process, int price, int to) {
        return asks(land, heading, process, price, to) ? sourcing.seekBest(webs) : NONE;
    }

    public int chosen(int land, int heading, int process, int price, int to, int part) {
        if (!within(part, 0, sourcing.parts() - 1) || !asks(land, heading, process, price, to)) {
            return NONE;
        }
        sourcing.seekBest(webs);
        return sourcing.bestPick[part];
    }

    public int moved(int protocol, int what) {
        if (!webs.protocols.has(protocol) || !within(what, 0, 1)) {
            return NONE;
        }
        int web = webs.protocols.webOf(protocol);
        origin.judge(web, now, NONE);
        origin.judge(web, now, protocol);
        return origin.countMoved(web, what);
    }

    public int word(int batch, int many) {
        return stock.has(batch) && within(many, 1, MOST_MANY) ? words.add(batch, many) : NONE;
    }

    public int struck(int batch) {
        return strikeWords(batch) ? words.struckSize : NONE;
    }

    public int strike(int batch, int i) {
        return strikeWords(batch) ? words.struckAt(i) : NONE;
    }

    public int check(int n, long seed, int i) {
        if (n < 1 || !within(i, 0, n - 1)) {
            return NONE;
        }
        border.judge(now);
        return n <= border.countPreferred() ? border.drawOne(seed, i) : NONE;
    }

    public int count(int what) {
        switch (what) {
            case 0: return now;
            case 1: return webs.protocols.size;
            case 2: return stock.size;
            case 3: return yard.laid;
            case 4: return border.size;
            case 5: return border.lines;
            case 6: return (int) (border.lineSum / THOUSAND);
            case 7: return words.size;
            case 8: return tape.length;
            case 9: return stock.undoneSize;
            case 10:
                border.judge(now);
                return border.countPreferred();
            default: return NONE;
        }
    }

    private static boolean within(int x, int least, int most) {
        return x >= least && x <= most;
    }

    private static boolean isPlace(int land, int heading) {
        return within(land, 0, LANDS - 1) && within(heading, 0, HEADINGS - 1);
    }

    private static boolean isGood(int land, int heading, int price, int many) {
        return isPlace(land, heading) && within(price, 1, MOST_COINS) && within(many, 1, MOST_MANY);
    }

    private static int placeOf(int letter) {
        return within(letter, 'a', 'z') ? LETTERS.indexOf((char) letter) : NONE;
    }

    private boolean isAsked(int web, int day, int q) {
        return within(web, 0, WEBS - 1) && within(day, 0, LAST_DAY) && within(q, 0, now);
    }

    private boolean isKnown(int batch, int web, int q) {
        return stock.has(batch) && within(web, 0, WEBS - 1) && within(q, stock.day[batch], now);
    }

    private boolean isMadeKnown(int batch, int web, int q) {
        return isKnown(batch, web, q) && !stock.isGrown(batch);
    }

    private boolean isSent(int shipment, int q) {
        return border.has(shipment) && within(q, border.day[shipment], now);
    }

    private boolean asks(int land, int heading, int process, int price, int to) {
        boolean asked = isPlace(land, heading) && within(process, 0, PROCESSES - 1)
            && within(price, 1, MOST_OFFERED) && within(to, 0, LANDS - 1);
        if (!asked || sourcing.parts() == 0) {
            return false;
        }
        sourcing.ask(land, heading, process, price);
        sourcing.rateWebs(webs, to, now, border.tariffOf(to, heading));
        return true;
    }

    private boolean strikeWords(int batch) {
        if (!stock.has(batch) || !words.gather(batch)) {
            return false;
        }
        words.strikeFewest(stock.many[batch]);
        return true;
    }

    /** The bytes that are fed, and the reader that finds their fault and turns them into steps. */
    private static final class Tape {
        private static final String LABELS = "rdsgz";
        private static final int DEEPEST = 8;
        private static final int DIGITS = 5;

        private final int[] bytes = new int[BYTES];
        private int length;
        private int at;
        private int fault = NONE;
        private final int[] steps = new int[BYTES];
        private int stepsSize;

        int take(int a, int b, int c, int d, int e) {
            int more = countBytes(a) + countBytes(b) + countBytes(c) + countBytes(d) + countBytes(e);
            if (length + more > BYTES) {
                return NONE;
            }
            putBytes(a);
            putBytes(b);
            putBytes(c);
            putBytes(d);
            putBytes(e);
            return length;
        }

        private static int countBytes(int number) {
            int found = 0;
            for (int shift = 24; shift >= 0; shift -= 8) {
                if (((number >>> shift) & 255) != 0) {
                    found++;
                }
            }
            return found;
        }

        private void putBytes(int number) {
            for (int shift = 24; shift >= 0; shift -= 8) {
                int value = (number >>> shift) & 255;
                if (value != 0 && length < BYTES) {
                    bytes[length] = value;
                    length++;
                }
            }
        }

        boolean cut(int n) {
            if (!within(n, 0, length)) {
                return false;
            }
            length = n;
            return true;
        }

        /** Reads the whole text; without a fault its steps stand ready. */
        int findFault() {
            at = 0;
            fault = NONE;
            stepsSize = 0;
            readClause();
            for (int n = 0; n < BYTES && takes(';'); n++) {
                readClause();
            }
            if (fault == NONE && peek() != NONE) {
                fail();
            }
            return fault;
        }

        /** A clause's steps begin with its label and where the next clause begins. */
        private void readClause() {
            int label = peek();
            if (!within(label, 'a', 'z') || LABELS.indexOf((char) label) < 0) {
                fail();
                return;
            }
            at++;
            int start = stepsSize;
            put(label);
            put(0);
            need(':');
            boolean summed = peek() != '!' && peek() != '(';
            if (summed) {
                readSum(0);
            }
            if (!summed || isComparison(peek())) {
                readCondition(0, summed);
                need('?');
                put(-'?');
                readSum(0);
            }
            if (start + 1 < BYTES) {
                steps[start + 1] = stepsSize;
            }
        }

        /** Only behind a SUM it shows whether a CONDITION began with it: then that SUM is read already. */
        private void readCondition(int depth, boolean summed) {
            readPart(depth, summed);
            for (int n = 0; n < BYTES && takes('|'); n++) {
                readPart(depth, false);
                put(-'|');
            }
        }

        private void readPart(int depth, boolean summed) {
            readUnit(depth, summed);
            for (int n = 0; n < BYTES && takes('&'); n++) {
                readUnit(depth, false);
                put(-'&');
            }
        }

        private void readUnit(int depth, boolean summed) {
            int sign = summed ? NONE : peek();
            if (sign == '!') {
                if (opens(depth)) {
                    readUnit(depth + 1, false);
                    put(-'!');
                }
            } else if (sign == '(') {
                if (opens(depth)) {
                    readCondition(depth + 1, false);
                    need(')');
                }
            } else {
                if (!summed) {
                    readSum(depth);
                }
                int comparison = peek();
                if (!isComparison(comparison)) {
                    fail();
                    return;
                }
                at++;
                readSum(depth);
                put(-comparison);
            }
        }

        private static boolean isComparison(int sign) {
            return sign == '=' || sign == '<' || sign == '>';
        }

        private void readSum(int depth) {
            readTerm(depth);
            for (int n = 0; n < BYTES && (peek() == '+' || peek() == '-'); n++) {
                int sign = peek();
                at++;
                readTerm(depth);
                put(-sign);
            }
        }

        private void readTerm(int depth) {
            readAtom(depth);
            for (int n = 0; n < BYTES && (peek() == '*' || peek() == '/'); n++) {
                int sign = peek();
                at++;
                readAtom(depth);
                put(-sign);
            }
        }

        private void readAtom(int depth) {
            int sign = peek();
            int place = placeOf(sign);
            if (isDigit(sign)) {
                readNumber();
            } else if (place != NONE) {
                at++;
                put(-1 - place);
            } else if (sign != '[') {
                fail();
            } else if (opens(depth)) {
                readSum(depth + 1);
                need(']');
            }
        }

        private void readNumber() {
            int value = 0;
            for (int n = 0; n < DIGITS && at < length && isDigit(bytes[at]); n++) {
                value = value * 10 + bytes[at] - '0';
                at++;
            }
            if (at < length && isDigit(bytes[at])) {
                fail();
            }
            put(value);
        }

        private static boolean isDigit(int sign) {
            return sign >= '0' && sign <= '9';
        }

        /** Steps over a ( [ or !, unless it would be the ninth within one another. */
        private boolean opens(int depth) {
            if (depth >= DEEPEST) {
                fail();
                return false;
            }
            at++;
            return true;
        }

        /** The next sign behind blanks; none behind a fault, so that all reading comes to its end there. */
        private int peek() {
            while (at < length && bytes[at] == ' ') {
                at++;
            }
            return fault == NONE && at < length ? bytes[at] : NONE;
        }

        private boolean takes(int sign) {
            if (peek() != sign) {
                return false;
            }
            at++;
            return true;
        }

        private void need(int sign) {
            if (!takes(sign)) {
                fail();
            }
        }

        private void fail() {
            if (fault == NONE) {
                fault = at;
            }
        }

        private void put(int step) {
            if (stepsSize < BYTES) {
                steps[stepsSize] = step;
                stepsSize++;
            }
        }
    }

    /** What is told of webs, each from a day on. */
    private static final class Force {
        private final int most;
        private final int[] web;
        private final int[] from;
        private final int[] toldOn;
        private int size;

        Force(int room) {
            most = room > 0 ? room : 0;
            web = new int[most];
            from = new int[most];
            toldOn = new int[most];
        }

        int add(int ofWeb, int fromDay, int now) {
            if (size >= most || !within(ofWeb, 0, WEBS - 1) || !within(fromDay, 0, LAST_DAY)) {
                return NONE;
            }
            web[size] = ofWeb;
            from[size] = fromDay;
            toldOn[size] = now;
            size++;
            return size - 1;
        }

        boolean has(int number) {
            return within(number, 0, size - 1);
        }

        int webOf(int number) {
            return has(number) ? web[number] : NONE;
        }

        int inForce(int ofWeb, int day, int q) {
            int found = NONE;
            for (int i = 0; i < size; i++) {
                boolean counts = web[i] == ofWeb && toldOn[i] <= q && from[i] <= day;
                if (counts && (found == NONE || from[i] >= from[found])) {
                    found = i;
                }
            }
            return found;
        }
    }

    /** What is told of things anew, a hundred times in all: as known in q the last of them counts. */
    private static final class Notes {
        private static final int MOST = 100;

        private final int[] about = new int[MOST];
        private final int[] value = new int[MOST];
        private final int[] toldOn = new int[MOST];
        private int size;

        boolean tell(int of, int newValue, int now) {
            if (size >= MOST) {
                return false;
            }
            about[size] = of;
            value[size] = newValue;
            toldOn[size] = now;
            size++;
            return true;
        }

        int last(int of, int q, int otherwise) {
            int found = otherwise;
            for (int i = 0; i < size && toldOn[i] <= q; i++) {
                if (about[i] == of) {
                    found = value[i];
                }
            }
            return found;
        }
    }

    /** The letters of what is asked; those of a made good come of the sums of its entries. */
    private static final class Letters {
        private final int[] value = new int[LETTER_COUNT];
        private int land;
        private int heading;
        private long all;
        private long foreign;
        private long alike;
        private long abroad;
        private int strangers;

        void tellTrade(int ofHeading, int day) {
            for (int i = 0; i < value.length; i++) {
                value[i] = 0;
            }
            value[HEADING] = ofHeading;
            value[YEAR] = day / YEAR_DAYS;
        }

        void begin(int ofLand, int ofHeading) {
            land = ofLand;
            heading = ofHeading;
            all = 0;
            foreign = 0;
            alike = 0;
            abroad = 0;
            strangers = 0;
        }

        void add(long coins, int fromLand, int ofHeading, boolean isOwn) {
            all += coins;
            if (!isOwn) {
                foreign += coins;
                strangers++;
                alike += ofHeading == heading ? coins : 0;
            } else if (fromLand != land) {
                abroad += coins;
            }
        }

        void finish(int process, long whole) {
            value[ALL] = thousandths(all, whole);
            value[FOREIGN] = thousandths(foreign, whole);
            value[ALIKE] = thousandths(alike, whole);
            value[ABROAD] = thousandths(abroad, whole);
            value[STRANGERS] = strangers;
            value[HEADING] = heading;
            value[PROCESS] = process;
            value[YEAR] = 0;
        }

        private static int thousandths(long coins, long whole) {
            return whole > 0 ? (int) Math.min(LARGEST, coins * THOUSAND / whole) : 0;
        }
    }

    /** The webs' members and protocols, and the worth of a protocol's labels by the letters told. */
    private static final class Webs {
        private static final int MEMBERS = 40;
        private static final int PROTOCOLS = 20;
        private static final int STACK = 64;

        private final Force members = new Force(MEMBERS);
        private final int[] lands = new int[MEMBERS];
        private final Force protocols = new Force(PROTOCOLS);
        private final int[][] steps = new int[PROTOCOLS][BYTES];
        private final int[] stepsSize = new int[PROTOCOLS];
        private final Letters letters = new Letters();
        private final int[] stack = new int[STACK];
        private int top;

        boolean tellMembers(int web, int toldLands, int from, int now) {
            int number = members.add(web, from, now);
            if (number == NONE) {
                return false;
            }
            lands[number] = toldLands;
            return true;
        }

        int tellProtocol(int web, int from, int now, Tape tape) {
            int number = protocols.add(web, from, now);
            if (number != NONE) {
                System.arraycopy(tape.steps, 0, steps[number], 0, tape.stepsSize);
                stepsSize[number] = tape.stepsSize;
            }
            return number;
        }

        int membersOn(int web, int day, int q) {
            int number = members.inForce(web, day, q);
            return number == NONE ? 0 : lands[number];
        }

        boolean isMember(int web, int land, int day, int q) {
            return ((membersOn(web, day, q) >>> land) & 1) != 0;
        }

        boolean areTwoMembers(int web, int oneLand, int otherLand, int day, int q) {
            int lands = membersOn(web, day, q);
            return oneLand != otherLand && ((lands >>> oneLand) & (lands >>> otherLand) & 1) != 0;
        }

        int worth(int protocol, int label) {
            if (!protocols.has(protocol)) {
                return 0;
            }
            int[] text = steps[protocol];
            int size = stepsSize[protocol];
            int at = 0;
            for (int n = 0; n < BYTES && at + 1 < size; n++) {
                int next = text[at + 1];
                if (text[at] == label && run(text, at + 2, next)) {
                    return pop();
                }
                at = next;
            }
            return 0;
        }

        /** False if the clause's condition does not hold; else its sum lies on the stack. */
        private boolean run(int[] text, int from, int end) {
            top = 0;
            for (int at = from; at < end && at < text.length; at++) {
                int step = text[at];
                if (step >= 0) {
                    push(step);
                } else if (step >= -LETTER_COUNT) {
                    push(letters.value[-1 - step]);
                } else if (step == -'?') {
                    if (pop() == 0) {
                        return false;
                    }
                } else if (step == -'!') {
                    push(1 - pop());
                } else {
                    int right = pop();
                    push(join(-step, pop(), right));
                }
            }
            return true;
        }

        private static long join(int sign, long left, long right) {
            switch (sign) {
                case '=': return left == right ? 1 : 0;
                case '<': return left < right ? 1 : 0;
                case '>': return left > right ? 1 : 0;
                case '&': return left & right;
                case '|': return left | right;
                case '+': return left + right;
                case '-': return left - right;
                case '*': return left * right;
                case '/': return right == 0 ? 0 : left / right;
                default: return 0;
            }
        }

        private void push(long x) {
            if (top < STACK) {
                stack[top] = (int) Math.max(-LARGEST, Math.min(LARGEST, x));
                top++;
            }
        }

        private int pop() {
            if (top <= 0) {
                return 0;
            }
            top--;
            return stack[top];
        }
    }

    /** The batches: what was told of them, their entries, what is left of them. */
    private static final class Stock {
        private final int[] land = new int[BATCHES];
        private final int[] heading = new int[BATCHES];
        private final int[] price = new int[BATCHES];
        private final int[] many = new int[BATCHES];
        private final int[] left = new int[BATCHES];
        private final int[] day = new int[BATCHES];
        private final int[] process = new int[BATCHES];
        private final int[] undoneOn = new int[BATCHES];
        private final int[] entries = new int[BATCHES];
        private final int[] entryBatch = new int[BATCHES * ENTRIES];
        private final int[] entryMany = new int[BATCHES * ENTRIES];
        private final Notes mends = new Notes();
        private int size;
        private int undoneSize;

        /** A grown batch, until it is given a process and entries. */
        int add(int inLand, int ofHeading, int firstPrice, int howMany, int now) {
            if (size >= BATCHES) {
                return NONE;
            }
            land[size] = inLand;
            heading[size] = ofHeading;
            price[size] = firstPrice;
            many[size] = howMany;
            left[size] = howMany;
            day[size] = now;
            process[size] = NONE;
            undoneOn[size] = NONE;
            entries[size] = 0;
            size++;
            return size - 1;
        }

        void addEntry(int batch, int part, int howMany) {
            if (has(batch) && entries[batch] < ENTRIES) {
                int place = batch * ENTRIES + entries[batch];
                entryBatch[place] = part;
                entryMany[place] = howMany;
                entries[batch]++;
            }
        }

        boolean has(int batch) {
            return within(batch, 0, size - 1);
        }

        boolean isGrown(int batch) {
            return process[batch] == NONE;
        }

        boolean isUndone(int batch, int q) {
            return undoneOn[batch] != NONE && undoneOn[batch] <= q;
        }

        boolean undoProof(int batch, int now) {
            if (!isGrown(batch) || undoneOn[batch] != NONE) {
                return false;
            }
            undoneOn[batch] = now;
            undoneSize++;
            return true;
        }

        int partOf(int batch, int i) {
            return entryBatch[batch * ENTRIES + i];
        }

        int manyOf(int batch, int i) {
            return entryMany[batch * ENTRIES + i];
        }

        boolean canTake(int batch, int n) {
            return has(batch) && within(n, 1, left[batch]);
        }

        int priceOf(int batch, int q) {
            return mends.last(batch, q, price[batch]);
        }

        /** All prices at once: asking for each would read all the mends again for each. */
        void tellPrices(int q, int[] prices) {
            System.arraycopy(price, 0, prices, 0, size);
            for (int i = 0; i < mends.size && mends.toldOn[i] <= q; i++) {
                prices[mends.about[i]] = mends.value[i];
            }
        }

        int fact(int batch, int what, int now) {
            switch (what) {
                case 0: return land[batch];
                case 1: return heading[batch];
                case 2: return priceOf(batch, now);
                case 3: return many[batch];
                case 4: return left[batch];
                case 5: return day[batch];
                case 6: return process[batch];
                case 7: return entries[batch];
                default: return isUndone(batch, now) ? 1 : 0;
            }
        }
    }

    /** The bench and the heaps. */
    private static final class Yard {
        private static final int POURINGS = 100;

        private final int[] benchBatch = new int[ENTRIES];
        private final int[] benchMany = new int[ENTRIES];
        private int laid;
        private final int[] pouredHeap = new int[POURINGS];
        private final int[] pouredBatch = new int[POURINGS];
        private final int[] pouredRest = new int[POURINGS];
        private int pourings;

        int layLeft(Stock stock, int batch, int many) {
            if (!stock.canTake(batch, many) || laid >= ENTRIES) {
                return NONE;
            }
            stock.left[batch] -= many;
            putOnBench(batch, many);
            return laid;
        }

        private void putOnBench(int batch, int many) {
            if (laid < ENTRIES) {
                benchBatch[laid] = batch;
                benchMany[laid] = many;
                laid++;
            }
        }

        int pourLeft(Stock stock, int heap, int batch, int many) {
            if (!within(heap, 0, HEAPS - 1) || !stock.canTake(batch, many) || pourings >= POURINGS) {
                return NONE;
            }
            stock.left[batch] -= many;
            pouredHeap[pourings] = heap;
            pouredBatch[pourings] = batch;
            pouredRest[pourings] = many;
            pourings++;
            return lyingOn(heap);
        }

        private int lyingOn(int heap) {
            int sum = 0;
            for (int i = 0; i < pourings; i++) {
                sum += pouredHeap[i] == heap ? pouredRest[i] : 0;
            }
            return sum;
        }

        int drawFrom(int heap, int n) {
            if (n < 1 || lyingOn(heap) < n || laid + countTouched(heap, n) > ENTRIES) {
                return NONE;
            }
            int wanted = n;
            for (int i = 0; i < pourings && wanted > 0; i++) {
                if (pouredHeap[i] == heap && pouredRest[i] > 0) {
                    int drawn = Math.min(wanted, pouredRest[i]);
                    pouredRest[i] -= drawn;
                    wanted -= drawn;
                    putOnBench(pouredBatch[i], drawn);
                }
            }
            return laid;
        }

        private int countTouched(int heap, int n) {
            int touched = 0;
            int wanted = n;
            for (int i = 0; i < pourings && wanted > 0; i++) {
                if (pouredHeap[i] == heap && pouredRest[i] > 0) {
                    wanted -= pouredRest[i];
                    touched++;
                }
            }
            return touched;
        }

        int giveBack(Stock stock) {
            int lay = laid;
            for (int i = 0; i < laid; i++) {
                stock.left[benchBatch[i]] += benchMany[i];
            }
            laid = 0;
            return lay;
        }

        void useUp(Stock stock, int batch, int process) {
            stock.process[batch] = process;
            for (int i = 0; i < laid; i++) {
                stock.addEntry(batch, benchBatch[i], benchMany[i]);
            }
            laid = 0;
        }
    }

    /** Which batches are own of which web. */
    private static final class Origin {
        /** The row for what would be, were a protocol in force on all days. */
        private static final int SUPPOSED = WEBS;

        private final Webs webs = new Webs();
        private final Stock stock = new Stock();
        private final int[][] own = new int[WEBS + 1][BATCHES];
        private final int[] prices = new int[BATCHES];

        /** Entries are older than what is made of them: by numbers each finds its entries judged. */
        void judge(int web, int q, int supposed) {
            int row = supposed == NONE ? web : SUPPOSED;
            stock.tellPrices(q, prices);
            for (int b = 0; b < stock.size && stock.day[b] <= q; b++) {
                own[row][b] = isFound(row, b, web, q, supposed) ? 1 : 0;
            }
        }

        private boolean isFound(int row, int batch, int web, int q, int supposed) {
            int day = stock.day[batch];
            if (!webs.isMember(web, stock.land[batch], day, q)) {
                return false;
            }
            if (stock.isGrown(batch)) {
                return !stock.isUndone(batch, q);
            }
            weigh(row, batch);
            int protocol = supposed == NONE ? webs.protocols.inForce(web, day, q) : supposed;
            return webs.worth(protocol, 'r') != 0;
        }

        private void weigh(int row, int batch) {
            Letters letters = webs.letters;
            letters.begin(stock.land[batch], stock.heading[batch]);
            for (int i = 0; i < stock.entries[batch]; i++) {
                int part = stock.partOf(batch, i);
                long coins = (long) prices[part] * stock.manyOf(batch, i);
                letters.add(coins, stock.land[part], stock.heading[part], own[row][part] != 0);
            }
            letters.finish(stock.process[batch], (long) prices[batch] * stock.many[batch]);
        }

        /** As the web was judged last; so are the next three. */
        boolean isOwn(int web, int batch) {
            return own[web][batch] != 0;
        }

        /** A grown batch has no entries: its sums are 0. */
        int letterOf(int web, int batch, int place) {
            weigh(web, batch);
            return webs.letters.value[place];
        }

        int firstForeign(int web, int batch) {
            for (int i = 0; i < stock.entries[batch]; i++) {
                if (!isOwn(web, stock.partOf(batch, i))) {
                    return i;
                }
            }
            return NONE;
        }

        int countMoved(int web, int what) {
            int moves = 0;
            for (int b = 0; b < stock.size; b++) {
                if (!stock.isGrown(b) && own[web][b] != what && own[SUPPOSED][b] == what) {
                    moves++;
                }
            }
            return moves;
        }
    }

    /** The shipments, their papers, states and duties, the lines that are booked, the draws for checks. */
    private static final class Border {
        private static final int FIRST_TARIFF = 100;
        private static final long STRIDE = 6364136223846793005L;
        private static final long STEP = 1442695040888963407L;

        private final Origin origin = new Origin();
        private final int[] batch = new int[SHIPMENTS];
        private final int[] many = new int[SHIPMENTS];
        private final int[] land = new int[SHIPMENTS];
        private final int[] web = new int[SHIPMENTS];
        private final int[] stops = new int[SHIPMENTS];
        private final int[] day = new int[SHIPMENTS];
        private int size;
        private final Notes papers = new Notes();
        private final int[] tariffs = new int[LANDS * HEADINGS];
        private final int[] states = new int[SHIPMENTS];
        private final long[] booked = new long[SHIPMENTS];
        private final int[] lineShipment = new int[LINES];
        private final long[] lineCoins = new long[LINES];
        private final int[] lineDay = new int[LINES];
        private int lines;
        private long lineSum;
        private final int[] weights = new int[SHIPMENTS];

        Border() {
            for (int i = 0; i < tariffs.length; i++) {
                tariffs[i] = FIRST_TARIFF;
            }
        }

        void setTariff(int toLand, int heading, int thousandths) {
            tariffs[toLand * HEADINGS + heading] = thousandths;
        }

        int tariffOf(int toLand, int heading) {
            return tariffs[toLand * HEADINGS + heading];
        }

        int send(int ofBatch, int howMany, int toLand, int byWeb, int stopDays, int now) {
            if (size >= SHIPMENTS) {
                return NONE;
            }
            origin.stock.left[ofBatch] -= howMany;
            batch[size] = ofBatch;
            many[size] = howMany;
            land[size] = toLand;
            web[size] = byWeb;
            stops[size] = stopDays;
            day[size] = now;
            size++;
            return size - 1;
        }

        boolean has(int shipment) {
            return within(shipment, 0, size - 1);
        }

        /** The states of all shipments told up to q, by numbers: quotas look at those before. */
        void judge(int q) {
            for (int w = 0; w < WEBS; w++) {
                if (isClaimed(w)) {
                    origin.judge(w, q, NONE);
                }
            }
            for (int s = 0; s < size && day[s] <= q; s++) {
                states[s] = findState(s, q);
            }
        }

        private boolean isClaimed(int someWeb) {
            for (int s = 0; s < size; s++) {
                if (web[s] == someWeb) {
                    return true;
                }
            }
            return false;
        }

        private int findState(int s, int q) {
            if (web[s] == NONE) {
                return UNCLAIMED;
            }
            int fromLand = origin.stock.land[batch[s]];
            if (!origin.webs.areTwoMembers(web[s], fromLand, land[s], day[s], q)) {
                return OUTSIDE;
            }
            if (!origin.isOwn(web[s], batch[s])) {
                return NOT_OWN;
            }
            int protocol = protocolOf(s, q);
            if (stops[s] > origin.webs.worth(protocol, 's')) {
                return STOPPED;
            }
            int paper = papers.last(s, q, NONE);
            if (paper == NONE || paper > day[s] + origin.webs.worth(protocol, 'g')) {
                return NO_PAPER;
            }
            int quota = origin.webs.worth(protocol, 'z');
            return quota > 0 && countTaken(s) + many[s] > quota ? OVER_QUOTA : PREFERRED;
        }

        /** The protocol in force for a shipment; its letters are told then. */
        private int protocolOf(int s, int q) {
            origin.webs.letters.tellTrade(headingOf(s), day[s]);
            return origin.webs.protocols.inForce(web[s], day[s], q);
        }

        private int headingOf(int s) {
            return origin.stock.heading[batch[s]];
        }

        /** How many the shipments before it that share its quota took. */
        private int countTaken(int s) {
            int taken = 0;
            for (int t = 0; t < s; t++) {
                boolean shares = states[t] == PREFERRED && land[t] == land[s] && web[t] == web[s]
                    && headingOf(t) == headingOf(s) && day[t] / YEAR_DAYS == day[s] / YEAR_DAYS;
                taken += shares ? many[t] : 0;
            }
            return taken;
        }

        int countPreferred() {
            int found = 0;
            for (int s = 0; s < size; s++) {
                found += states[s] == PREFERRED ? 1 : 0;
            }
            return found;
        }

        /** By the states as they were judged last. */
        long dutyOf(int s, int q) {
            long rate = tariffOf(land[s], headingOf(s));
            if (states[s] == PREFERRED) {
                rate = origin.webs.worth(protocolOf(s, q), 'd');
                rate = Math.max(0, Math.min(THOUSAND, rate));
            }
            return (long) origin.stock.priceOf(batch[s], q) * many[s] * rate / THOUSAND;
        }

        /** By the states as they were judged last. */
        int bookLines(int now) {
            int before = lines;
            if (before + countUnbooked(now) > LINES) {
                return NONE;
            }
            for (int s = 0; s < size; s++) {
                long coins = dutyOf(s, now) - booked[s];
                if (coins != 0 && lines < LINES) {
                    lineShipment[lines] = s;
                    lineCoins[lines] = coins;
                    lineDay[lines] = now;
                    lines++;
                    lineSum += coins;
                    booked[s] += coins;
                }
            }
            return lines - before;
        }

        private int countUnbooked(int now) {
            int found = 0;
            for (int s = 0; s < size; s++) {
                found += dutyOf(s, now) != booked[s] ? 1 : 0;
            }
            return found;
        }

        long factOfLine(int i, int what) {
            if (!within(i, 0, lines - 1)) {
                return NO_LINE;
            }
            switch (what) {
                case 0: return lineShipment[i];
                case 1: return lineCoins[i];
                case 2: return lineDay[i];
                default: return NO_LINE;
            }
        }

        /** By the states as they were judged last: the i-th shipment drawn. */
        int drawOne(long seed, int i) {
            int sum = weighPreferred();
            long x = seed;
            int drawn = NONE;
            for (int n = 0; n <= i && sum > 0; n++) {
                x = x * STRIDE + STEP;
                drawn = shipmentAt((x >>> 33) % sum);
                sum -= weights[drawn];
                weights[drawn] = 0;
            }
            return drawn;
        }

        private int weighPreferred() {
            int sum = 0;
            for (int s = 0; s < size; s++) {
                weights[s] = 0;
                if (states[s] == PREFERRED) {
                    weights[s] = 1 + origin.letterOf(web[s], batch[s], FOREIGN) / 100;
                }
                sum += weights[s];
            }
            return sum;
        }

        private int shipmentAt(long place) {
            long rest = place;
            for (int s = 0; s < size; s++) {
                if (rest < weights[s]) {
                    return s;
                }
                rest -= weights[s];
            }
            return 0;
        }
    }

    /** The offers, and the best of their picks for a good. */
    private static final class Sourcing {
        private final int[] coins = new int[PARTS * OFFERS];
        private final int[] heading = new int[PARTS * OFFERS];
        private final int[] ownWebs = new int[PARTS * OFFERS];
        private final int[] land = new int[PARTS * OFFERS];
        private final int[] offered = new int[PARTS];
        private int askedParts;
        private int goodLand;
        private int goodHeading;
        private int goodProcess;
        private int goodPrice;
        private int tariff;
        private final int[] protocol = new int[WEBS];
        private final int[] rate = new int[WEBS];
        private int leastRate;
        private final int[] pick = new int[PARTS];
        private final int[] bestPick = new int[PARTS];

        int add(int part, int itsCoins, int itsHeading, int webs, int itsLand) {
            if (!within(part, 0, PARTS - 1) || offered[part] >= OFFERS || part > 0 && offered[part - 1] == 0) {
                return NONE;
            }
            int place = part * OFFERS + offered[part];
            coins[place] = itsCoins;
            heading[place] = itsHeading;
            ownWebs[place] = webs;
            land[place] = itsLand;
            offered[part]++;
            return offered[part] - 1;
        }

        void drop() {
            for (int part = 0; part < PARTS; part++) {
                offered[part] = 0;
            }
        }

        int parts() {
            int found = 0;
            while (found < PARTS && offered[found] > 0) {
                found++;
            }
            return found;
        }

        void ask(int inLand, int ofHeading, int process, int price) {
            askedParts = parts();
            goodLand = inLand;
            goodHeading = ofHeading;
            goodProcess = process;
            goodPrice = price;
        }

        /** What each web would take of the good, were it own (none: the web does not bind both lands). */
        void rateWebs(Webs webs, int to, int now, int ofTariff) {
            tariff = ofTariff;
            leastRate = ofTariff;
            webs.letters.tellTrade(goodHeading, now);
            for (int w = 0; w < WEBS; w++) {
                rate[w] = NONE;
                if (webs.areTwoMembers(w, goodLand, to, now, now)) {
                    protocol[w] = webs.protocols.inForce(w, now, now);
                    rate[w] = Math.max(0, Math.min(THOUSAND, webs.worth(protocol[w], 'd')));
                    leastRate = Math.min(leastRate, rate[w]);
                }
            }
        }

        /** The least cost; its pick stands in bestPick. */
        long seekBest(Webs webs) {
            int picks = countPicks();
            long least = NONE;
            for (int n = 0; n < picks; n++) {
                setPick(n);
                long paid = coinsOfPick();
                // A pick that could not win at the least rate of all needs no reading of protocols.
                if (least == NONE || paid + dutyAt(leastRate) < least) {
                    long cost = paid + dutyAt(findRate(webs));
                    if (least == NONE || cost < least) {
                        least = cost;
                        System.arraycopy(pick, 0, bestPick, 0, PARTS);
                    }
                }
            }
            return least;
        }

        private int countPicks() {
            int picks = 1;
            for (int part = 0; part < askedParts; part++) {
                picks *= offered[part];
            }
            return picks;
        }

        /** The first part changes last: so of equal picks the one that is due comes first. */
        private void setPick(int n) {
            int rest = n;
            for (int part = askedParts - 1; part >= 0; part--) {
                int choices = Math.max(1, offered[part]);
                pick[part] = rest % choices;
                rest /= choices;
            }
        }

        private long coinsOfPick() {
            long sum = 0;
            for (int part = 0; part < askedParts; part++) {
                sum += coins[part * OFFERS + pick[part]];
            }
            return sum;
        }

        private long dutyAt(int thousandths) {
            return (long) goodPrice * thousandths / THOUSAND;
        }

        private int findRate(Webs webs) {
            int least = tariff;
            for (int w = 0; w < WEBS; w++) {
                if (rate[w] != NONE && rate[w] < least && isOwn(webs, w)) {
                    least = rate[w];
                }
            }
            return least;
        }

        private boolean isOwn(Webs webs, int web) {
            Letters letters = webs.letters;
            letters.begin(goodLand, goodHeading);
            for (int part = 0; part < askedParts; part++) {
                int place = part * OFFERS + pick[part];
                letters.add(coins[place], land[place], heading[place], ((ownWebs[place] >>> web) & 1) != 0);
            }
            letters.finish(goodProcess, goodPrice);
            return webs.worth(protocol[web], 'r') != 0;
        }
    }

    /** The words on how many were used of batches, and which are struck of those that can't all be. */
    private static final class Words {
        private static final int IMPOSSIBLE = -LARGEST;

        private final int[] batch = new int[WORDS];
        private final int[] many = new int[WORDS];
        private int size;
        private final int[] asked = new int[WORDS_ASKED];
        private int askedSize;
        /** most[i][k]: what k of the words asked of, from the i-th on, are together at most. */
        private final int[][] most = new int[WORDS_ASKED + 1][WORDS_ASKED + 1];
        private final int[] struckWords = new int[WORDS_ASKED];
        private int struckSize;

        int add(int ofBatch, int howMany) {
            if (size >= WORDS) {
                return NONE;
            }
            batch[size] = ofBatch;
            many[size] = howMany;
            size++;
            return size - 1;
        }

        /** Asks of a batch's words; false if they are too many. */
        boolean gather(int ofBatch) {
            askedSize = 0;
            for (int i = 0; i < size; i++) {
                if (batch[i] == ofBatch) {
                    if (askedSize >= WORDS_ASKED) {
                        return false;
                    }
                    asked[askedSize] = i;
                    askedSize++;
                }
            }
            return true;
        }

        void strikeFewest(int whole) {
            fillMost();
            int excess = sumAsked() - whole;
            int toStrike = 0;
            while (toStrike < askedSize && most[0][toStrike] < excess) {
                toStrike++;
            }
            struckSize = 0;
            for (int i = 0; i < askedSize && toStrike > 0; i++) {
                int freed = many[asked[i]];
                if (freed + most[i + 1][toStrike - 1] >= excess) {
                    struckWords[struckSize] = asked[i];
                    struckSize++;
                    toStrike--;
                    excess -= freed;
                }
            }
        }

        private void fillMost() {
            for (int k = 0; k <= askedSize; k++) {
                most[askedSize][k] = k == 0 ? 0 : IMPOSSIBLE;
            }
            for (int i = askedSize - 1; i >= 0; i--) {
                most[i][0] = 0;
                for (int k = 1; k <= askedSize; k++) {
                    most[i][k] = Math.max(most[i + 1][k], many[asked[i]] + most[i + 1][k - 1]);
                }
            }
        }

        private int sumAsked() {
            int sum = 0;
            for (int i = 0; i < askedSize; i++) {
                sum += many[asked[i]];
            }
            return sum;
        }

        int struckAt(int i) {
            return within(i, 0, struckSize - 1) ? struckWords[i] : NONE;
        }
    }
}
