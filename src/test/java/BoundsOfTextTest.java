/** Boundary cases of the TAPE, of TEXT and of what its sums come to (promises 5 to 9, TEXT in the terms). */
public final class BoundsOfTextTest {
    private static final int NONE = MadeWhere.NONE;
    private static final Sheet sheet = new Sheet();
    private static MadeWhere x;

    public static void main(String[] args) {
        feedOrder();
        feedFull();
        end();
        emptyAndFullTexts();
        nextBytes();
        digits();
        deepest();
        deepestBehindSigns();
        everyLength();
        oneBehindAnother();
        blanks();
        range();
        wraps();
        division();
        worths();
        manyOfAKind();
        manyWaiting();
        untoldLetters();
        protocolBounds();
        protocolFull();
        forceBounds();
        forceInTime();
        sheet.end();
    }

    private static void fresh(String sentence) {
        sheet.of(sentence);
        x = new MadeWhere();
    }

    private static void feedOrder() {
        fresh("5: twenty bytes, of each number the highest first");
        sheet.due(x.feed(0x723A313B, 0x643A323B, 0x733A333B, 0x673A343B, 0x7A3A3535), 20);
        sheet.due(x.fault(), NONE);
        sheet.due(x.end(19), true);
        sheet.due(x.fault(), NONE);
        sheet.due(x.end(18), true);
        sheet.due(x.fault(), 18);
        fresh("5: bytes of 0 are left out");
        sheet.due(x.feed(0, 0, 0, 0, 0), 0);
        sheet.due(x.feed(0x72000000, 0, 0, 0, 0), 1);
        sheet.due(x.feed(0, 0x003A0000, 0, 0, 0), 2);
        sheet.due(x.feed(0, 0, 0x00003100, 0, 0), 3);
        sheet.due(x.feed(0, 0, 0, 0x0000002B, 0), 4);
        sheet.due(x.feed(0, 0, 0, 0, 0x61000000), 5);
        sheet.due(x.fault(), NONE);
        sheet.due(x.feed(0x00FF00FF, 0, 0, 0, 0xFF00FF00), 9);
        sheet.due(x.fault(), 5);
        sheet.due(x.feed(-1, Integer.MIN_VALUE, Integer.MAX_VALUE, 1, 256), 20);
        sheet.due(x.count(8), 20);
    }

    private static void feedFull() {
        fresh("5: more than 200");
        for (int i = 1; i <= 9; i++) sheet.due(x.feed(-1, -1, -1, -1, -1), 20 * i);
        sheet.due(x.feed(1, 0, 0, 0, 0), 181);
        sheet.due(x.feed(-1, -1, -1, -1, -1), NONE);
        sheet.due(x.count(8), 181);
        sheet.due(x.end(180), true);
        sheet.due(x.feed(-1, -1, -1, -1, -1), 200);
        sheet.due(x.feed(0, 0, 0, 0, 0), 200);
        sheet.due(x.feed(0, 0, 0, 0, 1), NONE);
        sheet.due(x.feed(-1, -1, -1, -1, -1), NONE);
        sheet.due(x.end(199), true);
        sheet.due(x.feed(0, 257, 0, 0, 0), NONE);
        sheet.due(x.count(8), 199);
        sheet.due(x.feed(0, 0, 0x20000000, 0, 0), 200);
        sheet.due(x.count(8), 200);
        fresh("5: what is more than 200 leaves the TAPE as it was");
        String whole = "r:1".concat("+1".repeat(98));
        sheet.due(Tapes.feed(x, whole), 199);
        sheet.due(x.feed(0x2B310000, 0, 0, 0, 0), NONE);
        sheet.due(x.fault(), NONE);
        sheet.due(x.feed(0x31000000, 0, 0, 0, 0), 200);
        sheet.due(x.fault(), NONE);
    }

    private static void end() {
        fresh("6: its first n bytes alone; False: n");
        sheet.due(x.end(0), true);
        sheet.due(x.end(1), false);
        sheet.due(x.end(-1), false);
        sheet.due(x.feed(0x723A3132, 0x33000000, 0, 0, 0), 5);
        sheet.due(x.end(6), false);
        sheet.due(x.end(Integer.MAX_VALUE), false);
        sheet.due(x.end(Integer.MIN_VALUE), false);
        sheet.due(x.count(8), 5);
        sheet.due(x.end(5), true);
        sheet.due(x.count(8), 5);
        sheet.due(x.end(4), true);
        sheet.due(x.end(5), false);
        sheet.due(x.fault(), NONE);
        sheet.due(x.feed(0x61000000, 0, 0, 0, 0), 5);
        sheet.due(x.fault(), 4);
        sheet.due(x.end(2), true);
        sheet.due(x.fault(), 2);
        sheet.due(x.end(0), true);
        sheet.due(x.fault(), 0);
    }

    private static void fault(String text, int want) {
        x = new MadeWhere();
        sheet.due(Tapes.feed(x, text), text.length());
        sheet.due(x.fault(), want);
        sheet.due(x.count(8), text.length());
    }

    private static void emptyAndFullTexts() {
        fresh("7: CLAUSES, one at least");
        fault("", 0);
        fault(";", 0);
        fault("r:1", NONE);
        fault("r:1;", 4);
        fault("r:1;;r:1", 4);
        fault(";r:1", 0);
        sheet.of("7: the length, if it ends too early");
        String text = "r:a=1&!(b<[2]|c>3)?[h+1]*2;d:y";
        for (int n = 0; n < text.length(); n++) {
            boolean isWhole = n == 3 || n == 24 || n == 26;
            fault(text.substring(0, n), isWhole ? NONE : n);
        }
        fault(text, NONE);
        sheet.of("7: a TAPE of 200 bytes");
        fault("r:".concat("1+".repeat(99)), 200);
        fault("r:1".concat("+1".repeat(98)).concat("1"), NONE);
        fault("r:1".concat("+1".repeat(98)).concat(";"), 200);
        fault("r:1".concat("+1".repeat(98)).concat("?"), 199);
        fault("r:1;".repeat(49).concat("r:1 "), NONE);
        fault("r:1;".repeat(50), 200);
        fault("r:".concat(" ".repeat(197)).concat("1"), NONE);
        fault("r:".concat(" ".repeat(198)), 200);
        fault(" ".repeat(200), 200);
        sheet.of("8: a TAPE of 200 bytes is a PROTOCOL");
        long d = worth("d:1".concat("+1".repeat(96)));
        sheet.due(d, 97);
    }

    private static final String DIGITS = "0123456789";
    private static final String LETTERS = "anbochpy";
    private static final String SUMS = "+-*/";
    private static final String COMPARED = "=<>";

    /** Every byte behind a text: where it can go on, and where not. */
    private static void nextBytes() {
        sheet.of("7: the first byte at which no TEXT can go on");
        String atom = DIGITS + LETTERS + "[ ";
        String unit = atom + "!(";
        next("", "rdsgz ");
        next("r", ": ");
        next("z ", ": ");
        next("r:", unit);
        next("r: ", unit);
        next("r:1", DIGITS + SUMS + COMPARED + "; ");
        next("r:1234", DIGITS + SUMS + COMPARED + "; ");
        next("r:12345", SUMS + COMPARED + "; ");
        next("r:1 ", SUMS + COMPARED + "; ");
        next("r:a", SUMS + COMPARED + "; ");
        next("r:1+", atom);
        next("r:1-", atom);
        next("r:1*", atom);
        next("r:1/", atom);
        next("r:1=", atom);
        next("r:1<", atom);
        next("r:1>", atom);
        next("r:1=1", DIGITS + SUMS + "&|? ");
        next("r:1=a", SUMS + "&|? ");
        next("r:1=1?", atom);
        next("r:1=1?a", SUMS + "; ");
        next("r:1=1&", unit);
        next("r:1=1|", unit);
        next("r:!", unit);
        next("r:!a", SUMS + COMPARED + " ");
        next("r:!a=1", DIGITS + SUMS + "&|? ");
        next("r:(", unit);
        next("r:(a", SUMS + COMPARED + " ");
        next("r:(a=y", SUMS + "&|) ");
        next("r:(a=1)", "&|? ");
        next("r:((a=1)", "&|) ");
        next("r:!(a=1)", "&|? ");
        next("r:[", atom);
        next("r:[a", SUMS + "] ");
        next("r:[a]", SUMS + COMPARED + "; ");
        next("r:[[a]", SUMS + "] ");
        next("r:a=[1]", SUMS + "&|? ");
        next("r:1;", "rdsgz ");
        next("r:((((((((", DIGITS + LETTERS + " ");
        next("r:!!!!!!!!", DIGITS + LETTERS + " ");
        next("r:[[[[[[[[", DIGITS + LETTERS + " ");
        next("r:(((((((", unit);
        next("r:!!!!!!!", unit);
        next("r:[[[[[[[", atom);
    }

    private static void next(String text, String allowed) {
        int at = text.length();
        for (int b = 1; b < 256; b++) {
            x = new MadeWhere();
            Tapes.feed(x, text + (char) b);
            boolean goesOn = x.fault() != at;
            if (goesOn != (allowed.indexOf(b) >= 0)) System.out.println("<" + text + "> and byte " + b);
            sheet.due(goesOn, allowed.indexOf(b) >= 0);
        }
    }

    private static void digits() {
        sheet.of("7: a number has 1 to 5 digits, a sixth is a fault");
        fault("r:", 2);
        fault("r:0", NONE);
        fault("r:99999", NONE);
        fault("r:999999", 7);
        fault("r:000000", 7);
        fault("r:1234567", 7);
        fault("r:1+12345", NONE);
        fault("r:1+123456", 9);
        fault("r:[123456]", 8);
        fault("r:123456=1?1", 7);
        fault("r:12345=123456?1", 13);
        fault("r:1=1?123456", 11);
        fault("r:1;d:123456", 11);
        fault("r:!123456=1?1", 8);
        fault("r:12345a", 7);
        fault("r:12345 6", 8);
    }

    private static void deepest() {
        sheet.of("7: at most eight ( [ and ! within one another, a ninth is a fault");
        for (int deep = 1; deep <= 11; deep++) {
            int want = deep <= 8 ? NONE : 10;
            fault("r:" + "[".repeat(deep) + "1" + "]".repeat(deep), want);
            fault("r:" + "(".repeat(deep) + "1=1" + ")".repeat(deep) + "?1", want);
            fault("r:" + "!".repeat(deep) + "1=1?1", want);
        }
        fault("r:(!(!(!(!1=1))))?1", NONE);
        fault("r:(!(!(!(!(1=1)))))?1", 10);
        fault("r:(!(!(!([[1]]=1))))?1", 10);
        fault("r:(!(!(!([1]=1))))?1", NONE);
        fault("r:(!(!(!(1=[1]))))?1", NONE);
        fault("r:(!(!(!(1=[[1]]))))?1", 12);
        fault("r:!!!!!!![a]=1?2", NONE);
        fault("r:!!!!!!!![a]=1?2", 10);
        fault("r:!!!!!!!!a=[1]?2", 12);
        fault("r:!!!!!!!!a=1&!b=1&(c=1)?[2]", NONE);
        fault("r:!!!!!!!!a=1|!!!!!!!!b=1?2", NONE);
        fault("r:((((((((a=1))))))))&((((((((a=1))))))))?[[[[[[[[1]]]]]]]]", NONE);
        fault("r:[[[[[[[[1]]]]]]]]=[[[[[[[[1]]]]]]]]?1;d:[[[[[[[[1]]]]]]]]", NONE);
        fault("r:[[[[[[[[1]]]]]]]]+[[[[[[[[[1]]]]]]]]]", 28);
        fault("r:1=1?[[[[[[[[[1]]]]]]]]]", 14);
        fault("r:[1]+[1]+[1]+[1]+[1]+[1]+[1]+[1]+[1]+[1]", NONE);
        fault("r:(1=1)&(1=1)&(1=1)&(1=1)&(1=1)&(1=1)&(1=1)&(1=1)&(1=1)?1", NONE);
        fault("r:!1=1&!1=1&!1=1&!1=1&!1=1&!1=1&!1=1&!1=1&!1=1&!1=1?1", NONE);
        fault("r: [ [ [ [ [ [ [ [ [ 1", 19);
        fault("r: ! ! ! ! ! ! ! ! ! 1", 19);
    }

    private static void deepestBehindSigns() {
        sheet.of("7: a ninth of ( [ and ! is a fault behind every sign, within all that is open there");
        String[] sums = {"+", "-", "*", "/", "+1*", "*1+", "-1-", "/1/"};
        String[] compared = {"=", "<", ">", "=1+", "=1*", "+1=", "*1<"};
        String[] joined = {"&", "|", "&1=1|", "|1=1&", "&1=1&", "|1=1|", "&(1=1)|", "|!1=1&"};
        for (int open = 0; open <= 8; open++) {
            for (String s : sums) ninth("r:" + "[".repeat(open) + "1" + s, 8 - open, "[");
            for (String s : sums) ninth("r:1=1?" + "[".repeat(open) + "1" + s, 8 - open, "[");
            for (String s : compared) ninth("r:" + "(".repeat(open) + "1" + s, 8 - open, "[");
            for (String s : joined) {
                if (open == 8 && s.matches(".*[(!].*")) continue;
                for (String sign : new String[] {"(", "!", "["}) ninth("r:" + "(".repeat(open) + "1=1" + s, 8 - open, sign);
            }
        }
        for (String s : new String[] {"(", "!", "["}) ninth("r:!!!(1=1)&!(1=1)|", 8, s);
        ninth("r:1;d:", 8, "[");
        ninth("r:[[[[[[[[1]]]]]]]];d:", 8, "[");
        ninth("r:((((((((1=1))))))))?", 8, "[");
    }

    /** So many more may stand behind the text, and not one more. */
    private static void ninth(String text, int more, String sign) {
        fault(text + sign.repeat(more) + "1", text.length() + more + 1);
        fault(text + sign.repeat(more + 1) + "1", text.length() + more);
    }

    private static void everyLength() {
        sheet.of("7: a CONDITION that begins with a SUM, in a TAPE of every length");
        for (int more = 0; more <= 193; more++) fault("r:1=1?1" + " ".repeat(more), NONE);
        for (int more = 0; more <= 195; more++) fault("r:1=1" + " ".repeat(more), 5 + more);
    }

    private static void oneBehindAnother() {
        fresh("7: a TAPE's FAULT, whatever was read before it");
        String[] texts = {"r:50" + "+50".repeat(60), "r:12345", "r:" + "50=50&".repeat(30) + "1=1?57;d:48", "r:1+12345", "r:[[[[[[[[1]]]]]]]];d:99999",
            "r:" + "!(1=1)&".repeat(20) + "c>0?55", "r:1;d:12345;s:12345=12345?1"};
        for (String before : texts) {
            for (String text : texts) {
                Tapes.feed(x, before);
                sheet.due(x.fault(), NONE);
                Tapes.feed(x, "r:((1");
                sheet.due(x.fault(), 5);
                Tapes.feed(x, text);
                sheet.due(x.fault(), NONE);
            }
        }
    }

    private static void blanks() {
        sheet.of("7: blanks (32) between all these, not within numbers");
        fault("r  :  a  =  1  &  !  b  <  [  2  ]  |  (  c  >  3  )  ?  h  +  1  ;  d  :  2", NONE);
        fault("r:1 1", 4);
        fault("r:1  1", 5);
        fault("r:a b", 4);
        fault("r:1\t", 3);
        fault("r:1\n", 3);
        fault("r:1!", 3);
        fault("r:1" + (char) 31, 3);
        fault("r:1" + (char) 160, 3);
        fault("r:1 ", NONE);
        fault(" r:1", NONE);
        fault("r:1; ", 5);
        fault("r:1 x", 4);
        fault(" x", 1);
        fault("   ", 3);
    }

    /** The worth of d by a protocol that holds the clauses. */
    private static long worth(String clauses) {
        x = new MadeWhere();
        x.members(0, 3, 0);
        x.tariff(1, 0, 1000);
        x.offer(0, 0, 0, 0, 0);
        sheet.due(Sheet.rule(x, 0, 0, "r:1;" + clauses), 0);
        return x.best(0, 0, 0, 1000, 1);
    }

    /** A sum's own number, of which d shows but what is within 0 .. 1,000. */
    private static void number(String sum, String number) {
        sheet.due(worth("d:" + sum + "<" + number + "?1;d:" + sum + ">" + number + "?2;d:3"), 3);
    }

    private static void range() {
        sheet.of("8: behind each sign numbers are within -10,000,000 .. 10,000,000");
        number("99999*100+99", "10000*1000-1");
        number("99999*100+100", "10000*1000");
        number("99999*100+101", "10000*1000");
        number("99999*100+99999-1", "10000*1000-1");
        number("99999*99999-1", "99999*100+99");
        number("0-99999*100-99", "1-10000*1000");
        number("0-99999*100-100", "0-10000*1000");
        number("0-99999*100-101", "0-10000*1000");
        number("0-99999*100-99999+1", "1-10000*1000");
        number("5000*2000", "10000*1000");
        number("5000*2001", "10000*1000");
        number("5000*[0-2001]", "0-10000*1000");
        number("5000*2001-5000*2000", "0");
        number("99999*99999/99999", "100");
        number("[99999*99999]/[99999*99999]", "1");
        number("[1000*10000+1]-[1000*10000]", "0");
        number("[0-1000*10000-1]+1000*10000", "0");
    }

    private static void wraps() {
        sheet.of("8: sums that pass an int's range stay within -10,000,000 .. 10,000,000");
        number("65536*65536", "10000*1000");
        number("46341*46341", "10000*1000");
        number("99999*99999", "10000*1000");
        number("[0-46341]*46341", "0-10000*1000");
        number("[0-65536]*65536", "0-10000*1000");
        number("[0-65536]*[0-65536]", "10000*1000");
        number("10000*1000*[10000*1000]", "10000*1000");
        number("10000*1000*[0-10000*1000]", "0-10000*1000");
        sheet.due(worth("d:65536*65536"), 1000);
        sheet.due(worth("d:[0-65536]*65536"), 0);
        sheet.due(worth("d:65536*65536=0?1;d:2"), 2);
    }

    private static void division() {
        sheet.of("8: / cuts towards 0, by 0 gives 0");
        number("7/2", "3");
        number("[0-7]/2", "0-3");
        number("7/[0-2]", "0-3");
        number("[0-7]/[0-2]", "3");
        number("6/2", "3");
        number("1/2", "0");
        number("[0-1]/2", "0");
        number("5/0", "0");
        number("[0-5]/0", "0");
        number("0/0", "0");
        number("99999*99999/0", "0");
        number("5/0+7", "7");
        number("5/[2-2]*9", "0");
        number("10000*1000/[0-1]", "0-10000*1000");
        number("0/5", "0");
        number("8/4*3", "6");
        number("8*3/4", "6");
        number("9/2*2", "8");
        number("9-4-3", "2");
        number("9-[4-3]", "8");
    }

    private static void worths() {
        sheet.of("8: the SUM of its first CLAUSE whose CONDITION holds (or has none)");
        sheet.due(worth("d:1=2?5;d:1=1?6;d:7"), 6);
        sheet.due(worth("d:1=1?5;d:1=1?6"), 5);
        sheet.due(worth("d:5;d:1=1?6"), 5);
        sheet.due(worth("d:1=2?5;d:7;d:8"), 7);
        sheet.due(worth("s:4;g:5;z:6;d:7"), 7);
        sheet.of("8: WORTH is 0 without");
        sheet.due(worth("s:9"), 0);
        sheet.due(worth("d:1=2?5"), 0);
        sheet.due(worth("d:1=2?5;d:2<1?6;s:1"), 0);
        fresh("8: WORTH is 0 without, in a TAPE of 200 bytes");
        x.members(0, 3, 0);
        x.offer(0, 0, 0, 0, 0);
        x.tariff(1, 0, 1000);
        sheet.due(x.best(0, 0, 0, 1000, 1), 1000);
        sheet.due(Sheet.rule(x, 0, 0, "r:1" + "+1".repeat(98) + "1"), 0);
        sheet.due(x.best(0, 0, 0, 1000, 1), 0);
        sheet.due(Sheet.rule(x, 0, 0, "d:9;" + "s:1;".repeat(48) + "g:1"), 1);
        sheet.due(x.best(0, 0, 0, 1000, 1), 1000);
        sheet.of("8: = < > at their edges");
        sheet.due(worth("d:5<5?1;d:2"), 2);
        sheet.due(worth("d:4<5?1;d:2"), 1);
        sheet.due(worth("d:5>5?1;d:2"), 2);
        sheet.due(worth("d:6>5?1;d:2"), 1);
        sheet.due(worth("d:5=5?1;d:2"), 1);
        sheet.due(worth("d:4=5?1;d:2"), 2);
        sheet.due(worth("d:6=5?1;d:2"), 2);
        sheet.due(worth("d:6<5?1;d:2"), 2);
        sheet.due(worth("d:4>5?1;d:2"), 2);
        sheet.due(worth("d:0-9>0-8?1;d:2"), 2);
        sheet.due(worth("d:0-8>0-9?1;d:2"), 1);
        sheet.due(worth("d:0-1<0?1;d:2"), 1);
        sheet.of("8: & holds with both, | with one, ! without");
        String[] held = {"1=2", "1=1"};
        for (int a = 0; a < 2; a++) {
            sheet.due(worth("d:!" + held[a] + "?1;d:2"), a == 0 ? 1 : 2);
            sheet.due(worth("d:!!" + held[a] + "?1;d:2"), a == 1 ? 1 : 2);
            for (int b = 0; b < 2; b++) {
                sheet.due(worth("d:" + held[a] + "&" + held[b] + "?1;d:2"), a + b == 2 ? 1 : 2);
                sheet.due(worth("d:" + held[a] + "|" + held[b] + "?1;d:2"), a + b > 0 ? 1 : 2);
                sheet.due(worth("d:!(" + held[a] + "&" + held[b] + ")?1;d:2"), a + b == 2 ? 2 : 1);
                sheet.due(worth("d:!" + held[a] + "&" + held[b] + "?1;d:2"), a == 0 && b == 1 ? 1 : 2);
                for (int c = 0; c < 2; c++) {
                    String all = held[a] + "|" + held[b] + "&" + held[c];
                    sheet.due(worth("d:" + all + "?1;d:2"), a + b * c > 0 ? 1 : 2);
                    sheet.due(worth("d:(" + held[a] + "|" + held[b] + ")&" + held[c] + "?1;d:2"), (a + b) * c > 0 ? 1 : 2);
                    sheet.due(worth("d:" + held[a] + "&" + held[b] + "|" + held[c] + "?1;d:2"), a * b + c > 0 ? 1 : 2);
                    sheet.due(worth("d:" + held[a] + "&(" + held[b] + "|" + held[c] + ")?1;d:2"), a * (b + c) > 0 ? 1 : 2);
                    sheet.due(worth("d:!" + held[a] + "|" + held[b] + "&!" + held[c] + "?1;d:2"), 1 - a + b * (1 - c) > 0 ? 1 : 2);
                }
            }
        }
        sheet.of("8: PARTS with | between, UNITS with & between");
        for (int bits = 0; bits < 16; bits++) {
            int a = bits & 1, b = bits >> 1 & 1, c = bits >> 2 & 1, d = bits >> 3;
            sheet.due(worth("d:" + held[a] + "&" + held[b] + "|" + held[c] + "&" + held[d] + "?1;d:2"), a * b + c * d > 0 ? 1 : 2);
            sheet.due(worth("d:" + held[a] + "|" + held[b] + "&" + held[c] + "|" + held[d] + "?1;d:2"), a + b * c + d > 0 ? 1 : 2);
            sheet.due(worth("d:" + held[a] + "&" + held[b] + "&" + held[c] + "|" + held[d] + "?1;d:2"), a * b * c + d > 0 ? 1 : 2);
        }
    }

    private static void manyOfAKind() {
        sheet.of("8: as many of a kind as a TAPE holds");
        for (int last = 1; last <= 2; last++) {
            sheet.due(worth("d:" + "1=2|".repeat(46) + "1=" + last + "?3;d:4"), last == 1 ? 3 : 4);
            sheet.due(worth("d:" + "1=1&".repeat(46) + "1=" + last + "?3;d:4"), last == 1 ? 3 : 4);
            sheet.due(worth("d:1=" + last + "&1=1".repeat(46) + "?3;d:4"), last == 1 ? 3 : 4);
        }
        sheet.due(worth("d:2" + "*1".repeat(95) + "*3"), 6);
        sheet.due(worth("d:96" + "/1".repeat(95) + "/2"), 48);
        sheet.due(worth("d:99" + "-1".repeat(96)), 3);
        sheet.due(worth("d:3" + "+2".repeat(96)), 195);
        sheet.of("8: the last of as many CLAUSES as a TAPE holds");
        sheet.due(worth("s:1;".repeat(48) + "d:7"), 7);
        sheet.due(worth("d:1=2?5;".repeat(24) + "d:7"), 7);
        sheet.due(worth("s:1=2?5;".repeat(24) + "d:7"), 7);
        sheet.of("8: a CLAUSE that begins late");
        for (int more = 0; more <= 94; more++) sheet.due(worth("s:1" + "+1".repeat(more) + ";d:7"), 7);
        sheet.due(worth("s:1=2" + "&1=1".repeat(46) + "?1;d:7"), 7);
    }

    private static void manyWaiting() {
        sheet.of("8: numbers that wait for their sign within one another");
        sheet.due(worth("d:" + "1+2*[".repeat(8) + "1+0*5" + "]".repeat(8)), 511);
        sheet.due(worth("d:" + "999-1*[".repeat(8) + "1+2*3" + "]".repeat(8)), 7);
        sheet.due(worth("d:7=" + "9-1*[".repeat(8) + "1+2*3" + "]".repeat(8) + "?5;d:6"), 5);
        for (int last = 7; last <= 8; last++) {
            String inmost = "1=2|1=1&" + last + "=1+2*3";
            sheet.due(worth("d:" + "1=2|1=1&(".repeat(8) + inmost + ")".repeat(8) + "?5;d:6"), last == 7 ? 5 : 6);
            sheet.due(worth("d:" + "1=1&!(".repeat(4) + inmost + ")".repeat(4) + "?5;d:6"), last == 7 ? 5 : 6);
        }
    }

    private static void untoldLetters() {
        sheet.of("8: letters that are not told of what is asked are 0");
        sheet.due(worth("d:a+n+b+o+c+p+7"), 7);
        fresh("8: in r letter y is 0");
        x.members(0, 3, 0);
        x.days(720);
        Sheet.rule(x, 0, 0, "r:y=0?1;d:y");
        x.grown(0, 5, 1, 1);
        x.lay(0, 1);
        x.made(0, 5, 1, 1, 1);
        sheet.due(x.own(1, 0, 720), 1);
        x.offer(0, 0, 0, 0, 0);
        x.tariff(1, 5, 1000);
        sheet.due(x.best(0, 5, 0, 1000, 1), 2);
        fresh("8: in s, g, z and d letters a n b o c p are 0");
        x.members(0, 3, 0);
        x.days(1);
        Sheet.rule(x, 0, 0, "r:1;s:a+n+b+o+c+p;g:a+n+b+o+c+p;z:a+n+b+o+c+p;d:a+n+b+o+c+p+9");
        x.grown(1, 5, 10, 100);
        x.grown(5, 5, 10, 100);
        x.lay(0, 10);
        x.lay(1, 10);
        x.made(0, 5, 7, 10, 100);
        x.ship(2, 100, 1, 0, 0);
        x.ship(0, 1, 0, 0, 1);
        x.paper(0, 1);
        sheet.due(x.letter(2, 0, 1, 'n'), 100);
        sheet.due(x.state(0, 1), 1);
        sheet.due(x.duty(0, 1), 9);
        sheet.due(x.state(1, 1), 4);
        x.paper(0, 2);
        sheet.due(x.state(0, 1), 5);
    }

    private static void protocolBounds() {
        fresh("8: a FAULT, no such WEB, DAY; if refused it stays");
        sheet.due(x.protocol(0, 0), NONE);
        Tapes.feed(x, "r:1;");
        sheet.due(x.protocol(0, 0), NONE);
        sheet.due(x.count(8), 4);
        sheet.due(x.fault(), 4);
        sheet.due(x.end(3), true);
        int[][] bad = {{-1, 0}, {4, 0}, {0, -1}, {0, 2001}, {Integer.MIN_VALUE, 0}, {Integer.MAX_VALUE, 0},
            {0, Integer.MIN_VALUE}, {0, Integer.MAX_VALUE}};
        for (int[] b : bad) {
            sheet.due(x.protocol(b[0], b[1]), NONE);
            sheet.due(x.count(8), 3);
            sheet.due(x.count(1), 0);
        }
        sheet.of("8: the TAPE is empty then");
        sheet.due(x.protocol(0, 0), 0);
        sheet.due(x.count(8), 0);
        sheet.due(x.fault(), 0);
        sheet.due(x.protocol(0, 0), NONE);
        sheet.due(Sheet.rule(x, 3, 2000, "d:2"), 1);
        sheet.due(x.count(1), 2);
        sheet.of("8: a PROTOCOL stays as it was told when the TAPE changes");
        x.members(0, 3, 0);
        x.grown(0, 0, 1, 1);
        x.lay(0, 1);
        x.made(0, 0, 0, 1, 1);
        sheet.due(x.own(1, 0, 0), 1);
        Tapes.feed(x, "r:0");
        sheet.due(x.fault(), NONE);
        sheet.due(x.own(1, 0, 0), 1);
    }

    private static void protocolFull() {
        fresh("8: there are 20");
        for (int i = 0; i < 19; i++) sheet.due(Sheet.rule(x, i % 4, i, "r:1"), i);
        sheet.due(Sheet.rule(x, 0, 0, "r:2;"), NONE);
        sheet.due(Sheet.rule(x, 3, 2000, "r:2"), 19);
        for (int web = 0; web < 4; web++) {
            sheet.due(Sheet.rule(x, web, 0, "r:3"), NONE);
            sheet.due(x.count(8), 3);
            sheet.due(x.count(1), 20);
        }
        sheet.due(x.fault(), NONE);
        sheet.due(x.force(3, 2000, 0), 19);
        sheet.due(x.force(0, 2000, 0), 16);
        sheet.due(x.moved(19, 0), 0);
        sheet.due(x.moved(20, 0), NONE);
    }

    private static void forceBounds() {
        fresh("9: NONE: none, no such ones");
        x.days(5);
        for (int web = 0; web < 4; web++) sheet.due(x.force(web, 0, 0), NONE);
        for (int web = 0; web < 4; web++) sheet.due(Sheet.rule(x, web, 0, "r:1"), web);
        for (int web = 0; web < 4; web++) {
            sheet.due(x.force(web, 0, 5), web);
            sheet.due(x.force(web, 2000, 5), web);
            sheet.due(x.force(web, -1, 5), NONE);
            sheet.due(x.force(web, 2001, 5), NONE);
            sheet.due(x.force(web, 0, -1), NONE);
            sheet.due(x.force(web, 0, 6), NONE);
            sheet.due(x.force(web, 0, 4), NONE);
        }
        sheet.due(x.force(-1, 0, 5), NONE);
        sheet.due(x.force(4, 0, 5), NONE);
        sheet.due(x.force(Integer.MIN_VALUE, 0, 5), NONE);
        sheet.due(x.force(Integer.MAX_VALUE, 0, 5), NONE);
        sheet.due(x.force(0, Integer.MIN_VALUE, 5), NONE);
        sheet.due(x.force(0, Integer.MAX_VALUE, 5), NONE);
        sheet.due(x.force(0, 0, Integer.MIN_VALUE), NONE);
        sheet.due(x.force(0, 0, Integer.MAX_VALUE), NONE);
    }

    private static void forceInTime() {
        fresh("9: told up to q, from DAYS up to it, from the greatest DAY, told last");
        sheet.due(Sheet.rule(x, 1, 100, "r:1"), 0);
        sheet.due(Sheet.rule(x, 1, 50, "r:1"), 1);
        sheet.due(Sheet.rule(x, 2, 75, "r:1"), 2);
        sheet.due(x.force(1, 49, 0), NONE);
        sheet.due(x.force(1, 50, 0), 1);
        sheet.due(x.force(1, 99, 0), 1);
        sheet.due(x.force(1, 100, 0), 0);
        sheet.due(x.force(1, 101, 0), 0);
        sheet.due(x.days(3), 3);
        sheet.due(Sheet.rule(x, 1, 100, "r:1"), 3);
        sheet.due(Sheet.rule(x, 1, 100, "r:1"), 4);
        sheet.due(Sheet.rule(x, 1, 50, "r:1"), 5);
        sheet.due(x.force(1, 100, 2), 0);
        sheet.due(x.force(1, 100, 3), 4);
        sheet.due(x.force(1, 99, 2), 1);
        sheet.due(x.force(1, 99, 3), 5);
        sheet.due(x.force(2, 74, 3), NONE);
        sheet.due(x.force(2, 75, 3), 2);
    }
}
