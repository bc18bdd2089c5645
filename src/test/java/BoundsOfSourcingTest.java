/** Boundary cases of OFFERS, BEST and of WORDS (promises 30 to 33, 35 to 37). */
public final class BoundsOfSourcingTest {
    private static final int NONE = MadeWhere.NONE;
    private static final int[] FAR = {Integer.MIN_VALUE, -1000, Integer.MAX_VALUE};
    private static final Sheet sheet = new Sheet();
    private static MadeWhere x;

    public static void main(String[] args) {
        offerBounds();
        offersFull();
        noOffers();
        bestBounds();
        bestParts();
        bestCut();
        bestMost();
        bestTariff();
        bestLands();
        bestWebs();
        bestRates();
        bestNow();
        bestLate();
        bestOfMany();
        bestOfDearWeb(0, 0, 0);
        bestOfDearWeb(7, 60, 9);
        bestLandsOfParts();
        chosenLands();
        bestWithoutWebs();
        bestLetters();
        bestLettersAtMost();
        ties();
        chosenBounds();
        wordBounds();
        wordsFull();
        struckBounds();
        struckAtMost();
        struckTwelve();
        struckAll();
        struckLower();
        struckApart();
        sheet.end();
    }

    private static void fresh(String sentence) {
        sheet.of(sentence);
        x = new MadeWhere();
    }

    private static int rule(int web, int from, String text) { return Sheet.rule(x, web, from, text); }

    private static void offerBounds() {
        fresh("30: coins (0 .. 1,000,000), a HEADING, WEBS (bits), a LAND, a part (0 .. 3); NONE: out of bounds");
        int[][] bad = {{-1, 0, 0, 0, 0}, {4, 0, 0, 0, 0}, {0, -1, 0, 0, 0}, {0, 1000001, 0, 0, 0}, {0, 0, -1, 0, 0}, {0, 0, 100, 0, 0},
            {0, 0, 0, -1, 0}, {0, 0, 0, 16, 0}, {0, 0, 0, 0, -1}, {0, 0, 0, 0, 8}};
        for (int[] b : bad) sheet.due(x.offer(b[0], b[1], b[2], b[3], b[4]), NONE);
        for (int n : FAR) {
            sheet.due(x.offer(n, 0, 0, 0, 0), NONE);
            sheet.due(x.offer(0, n, 0, 0, 0), NONE);
            sheet.due(x.offer(0, 0, n, 0, 0), NONE);
            sheet.due(x.offer(0, 0, 0, n, 0), NONE);
            sheet.due(x.offer(0, 0, 0, 0, n), NONE);
        }
        sheet.due(x.best(0, 0, 0, 1, 1), NONE);
        sheet.due(x.offer(0, 0, 0, 0, 0), 0);
        sheet.due(x.best(0, 0, 0, 1, 1), 0);
        sheet.due(x.offer(1, 1000000, 99, 15, 7), 0);
        sheet.due(x.best(0, 0, 0, 1, 1), 1000000);
    }

    private static void offersFull() {
        fresh("30: the part ahead has none");
        for (int part = 1; part <= 3; part++) sheet.due(x.offer(part, 0, 0, 0, 0), NONE);
        for (int part = 0; part <= 3; part++) {
            for (int behind = part + 1; behind <= 3; behind++) sheet.due(x.offer(behind, 1, 0, 0, 0), NONE);
            sheet.due(x.offer(part, 10, 0, 0, 0), 0);
        }
        sheet.due(x.offer(4, 0, 0, 0, 0), NONE);
        sheet.due(x.best(0, 0, 0, 1, 1), 40);
        sheet.of("30: there are four");
        for (int i = 1; i <= 3; i++) for (int part = 3; part >= 0; part--) sheet.due(x.offer(part, 10, 0, 0, 0), i);
        for (int part = 0; part <= 3; part++) sheet.due(x.offer(part, 1, 0, 0, 0), NONE);
        sheet.due(x.best(0, 0, 0, 1, 1), 40);
    }

    private static void noOffers() {
        fresh("31: no OFFERS");
        x.offers();
        sheet.due(x.best(0, 0, 0, 1, 1), NONE);
        for (int part = 0; part <= 3; part++) for (int i = 0; i < 4; i++) x.offer(part, 5, 0, 0, 0);
        sheet.due(x.best(0, 0, 0, 1, 1), 20);
        x.offers();
        sheet.due(x.best(0, 0, 0, 1, 1), NONE);
        sheet.due(x.chosen(0, 0, 0, 1, 1, 0), NONE);
        for (int part = 1; part <= 3; part++) sheet.due(x.offer(part, 0, 0, 0, 0), NONE);
        sheet.due(x.offer(0, 7, 0, 0, 0), 0);
        sheet.due(x.best(0, 0, 0, 1, 1), 7);
        sheet.due(x.chosen(0, 0, 0, 1, 1, 1), NONE);
        x.offers();
        x.offers();
        sheet.due(x.best(0, 0, 0, 1, 1), NONE);
    }

    private static void bestBounds() {
        fresh("32: NONE: no OFFERS, out of bounds");
        sheet.due(x.best(0, 0, 0, 1, 1), NONE);
        x.offer(0, 5, 0, 0, 0);
        int[][] bad = {{-1, 0, 0, 1, 1}, {8, 0, 0, 1, 1}, {0, -1, 0, 1, 1}, {0, 100, 0, 1, 1}, {0, 0, -1, 1, 1}, {0, 0, 10, 1, 1}, {0, 0, 0, 0, 1},
            {0, 0, 0, -1, 1}, {0, 0, 0, 1000001, 1}, {0, 0, 0, 1, -1}, {0, 0, 0, 1, 8}};
        for (int[] b : bad) {
            sheet.due(x.best(b[0], b[1], b[2], b[3], b[4]), NONE);
            sheet.due(x.chosen(b[0], b[1], b[2], b[3], b[4], 0), NONE);
        }
        for (int n : FAR) {
            sheet.due(x.best(n, 0, 0, 1, 1), NONE);
            sheet.due(x.best(0, n, 0, 1, 1), NONE);
            sheet.due(x.best(0, 0, n, 1, 1), NONE);
            sheet.due(x.best(0, 0, 0, n, 1), NONE);
            sheet.due(x.best(0, 0, 0, 1, n), NONE);
            sheet.due(x.chosen(n, 0, 0, 1, 1, 0), NONE);
            sheet.due(x.chosen(0, n, 0, 1, 1, 0), NONE);
            sheet.due(x.chosen(0, 0, n, 1, 1, 0), NONE);
            sheet.due(x.chosen(0, 0, 0, n, 1, 0), NONE);
            sheet.due(x.chosen(0, 0, 0, 1, n, 0), NONE);
        }
        sheet.due(x.best(0, 0, 0, 1, 0), 5);
        sheet.due(x.best(7, 99, 9, 1, 7), 5);
        sheet.due(x.best(7, 99, 10, 1000000, 7), NONE);
        sheet.due(x.chosen(7, 99, 10, 1000000, 7, 0), NONE);
        sheet.due(x.best(7, 99, 9, 1000000, 7), 100005);
        sheet.due(x.chosen(7, 99, 9, 1000000, 7, 0), 0);
    }

    private static void bestParts() {
        fresh("32: coins of one OFFER of each part");
        int sum = 0;
        for (int part = 0; part <= 3; part++) {
            for (int i = 0; i < 4; i++) {
                x.offer(part, part == i ? 1 << part : 100, 0, 0, 0);
                sheet.due(x.best(0, 0, 0, 1, 1), sum + (i < part ? 100 : 1 << part));
                sheet.due(x.chosen(0, 0, 0, 1, 1, part), i < part ? 0 : part);
            }
            sum += 1 << part;
        }
        sheet.due(x.best(0, 0, 0, 1, 1), 15);
        for (int part = 0; part <= 3; part++) sheet.due(x.chosen(0, 0, 0, 1, 1, part), part);
    }

    private static void bestCut() {
        fresh("32: PRICE times thousandths, by 1,000, cut");
        x.offer(0, 5, 0, 0, 0);
        int[][] want = {{1, 0}, {9, 0}, {10, 1}, {11, 1}, {19, 1}, {20, 2}, {999999, 99999}, {1000000, 100000}};
        for (int[] w : want) sheet.due(x.best(0, 0, 0, w[0], 1), 5 + w[1]);
        x.tariff(1, 0, 1);
        sheet.due(x.best(0, 0, 0, 999, 1), 5);
        sheet.due(x.best(0, 0, 0, 1000, 1), 6);
        x.tariff(1, 0, 999);
        sheet.due(x.best(0, 0, 0, 1, 1), 5);
        sheet.due(x.best(0, 0, 0, 2, 1), 6);
        sheet.due(x.best(0, 0, 0, 1000000, 1), 999005);
        x.tariff(1, 0, 0);
        sheet.due(x.best(0, 0, 0, 1000000, 1), 5);
        x.tariff(1, 0, 1000);
        sheet.due(x.best(0, 0, 0, 1, 1), 6);
    }

    private static void bestMost() {
        fresh("32: the dearest of all");
        for (int part = 0; part <= 3; part++) for (int i = 0; i < 4; i++) x.offer(part, 1000000, 99, 15, 7);
        x.tariff(7, 99, 1000);
        sheet.due(x.best(0, 99, 9, 1000000, 7), 5000000);
        for (int part = 0; part <= 3; part++) sheet.due(x.chosen(0, 99, 9, 1000000, 7, part), 0);
    }

    private static void bestTariff() {
        fresh("32: TARIFF of the LAND that it goes to and of its HEADING");
        x.offer(0, 0, 5, 0, 3);
        x.tariff(2, 6, 1);
        x.tariff(1, 6, 2);
        x.tariff(2, 7, 3);
        x.tariff(3, 5, 4);
        sheet.due(x.best(1, 6, 0, 1000, 2), 1);
        sheet.due(x.best(2, 6, 0, 1000, 1), 2);
        sheet.due(x.best(1, 7, 0, 1000, 2), 3);
        sheet.due(x.best(1, 5, 0, 1000, 3), 4);
        sheet.due(x.best(1, 5, 0, 1000, 2), 100);
        sheet.of("32: TARIFF, if that is less");
        x.members(0, 255, 0);
        rule(0, 0, "r:1;d:50");
        int[] tariffs = {0, 49, 50, 51, 1000};
        for (int t : tariffs) {
            x.tariff(2, 6, t);
            sheet.due(x.best(1, 6, 0, 1000, 2), Math.min(t, 50));
        }
    }

    private static void bestLands() {
        fresh("32: WEBS of which both LANDS (unlike) are MEMBERS NOW");
        x.members(2, 0b01100110, 0);
        rule(2, 0, "r:1;d:3");
        x.offer(0, 0, 0, 0, 0);
        for (int land = 0; land < 8; land++) {
            for (int to = 0; to < 8; to++) {
                boolean both = (0b01100110 >> land & 0b01100110 >> to & 1) == 1 && land != to;
                sheet.due(x.best(land, 0, 0, 1000, to), both ? 3 : 100);
            }
        }
    }

    private static void bestWebs() {
        fresh("32: the least WORTH of d of those WEBS by which r is unlike 0");
        x.offer(0, 0, 0, 0, 0);
        int[] rates = {40, 20, 30, 10};
        for (int web = 0; web < 4; web++) {
            x.members(web, 3, 0);
            sheet.due(x.best(0, 0, 0, 1000, 1), web == 0 ? 100 : web == 1 ? 40 : 20);
            rule(web, 0, "r:1;d:" + rates[web]);
        }
        sheet.due(x.best(0, 0, 0, 1000, 1), 10);
        rule(3, 0, "r:0;d:10");
        sheet.due(x.best(0, 0, 0, 1000, 1), 20);
        rule(1, 0, "d:20");
        sheet.due(x.best(0, 0, 0, 1000, 1), 30);
        rule(2, 0, "r:0-1;d:31");
        sheet.due(x.best(0, 0, 0, 1000, 1), 31);
        x.members(2, 1, 0);
        sheet.due(x.best(0, 0, 0, 1000, 1), 40);
        rule(0, 0, "r:0");
        sheet.of("32: TARIFF, if there is none");
        sheet.due(x.best(0, 0, 0, 1000, 1), 100);
        sheet.of("32: WEBS of which an OFFER is OWN");
        for (int web = 0; web < 4; web++) {
            x.members(web, 3, 0);
            rule(web, 0, "r:c=0?1;d:" + rates[web]);
        }
        for (int bits = 0; bits < 16; bits++) {
            x.offers();
            x.offer(0, 0, 0, bits, 0);
            int least = 100;
            for (int web = 0; web < 4; web++) if ((bits >> web & 1) == 1) least = Math.min(least, rates[web]);
            sheet.due(x.best(0, 0, 0, 1000, 1), least);
        }
    }

    private static void bestRates() {
        fresh("32: WORTH of d (within 0 .. 1,000)");
        x.members(0, 3, 0);
        x.offer(0, 7, 0, 0, 0);
        x.tariff(1, 0, 1000);
        String[] d = {"r:1;d:0-99999*99999", "r:1;d:0-1", "r:1", "r:1;d:1", "r:1;d:999", "r:1;d:1000", "r:1;d:1001", "r:1;d:99999*99999"};
        int[] want = {0, 0, 0, 1, 999, 1000, 1000, 1000};
        for (int i = 0; i < d.length; i++) {
            rule(0, 0, d[i]);
            sheet.due(x.best(0, 0, 0, 1000, 1), 7 + want[i]);
        }
        sheet.of("32: letters h, y of NOW in d");
        rule(0, 0, "r:1;d:h*10+y");
        x.tariff(1, 9, 1000);
        sheet.due(x.best(0, 9, 0, 1000, 1), 97);
        x.days(359);
        sheet.due(x.best(0, 9, 0, 1000, 1), 97);
        x.days(1);
        sheet.due(x.best(0, 9, 0, 1000, 1), 98);
        x.days(640);
        x.days(1000);
        sheet.due(x.best(0, 9, 0, 1000, 1), 7 + 95);
    }

    private static void bestNow() {
        fresh("32: MEMBERS and PROTOCOL of NOW");
        x.offer(0, 0, 0, 0, 0);
        x.days(5);
        x.members(0, 3, 6);
        rule(0, 5, "r:1;d:3");
        sheet.due(x.best(0, 0, 0, 1000, 1), 100);
        x.members(0, 3, 5);
        sheet.due(x.best(0, 0, 0, 1000, 1), 3);
        rule(0, 6, "r:1;d:4");
        sheet.due(x.best(0, 0, 0, 1000, 1), 3);
        x.days(1);
        sheet.due(x.best(0, 0, 0, 1000, 1), 4);
        x.members(0, 1, 7);
        sheet.due(x.best(0, 0, 0, 1000, 1), 4);
        x.days(1);
        sheet.due(x.best(0, 0, 0, 1000, 1), 100);
    }

    private static void bestLate() {
        fresh("32: as known NOW, on DAY 2,000");
        x.offer(0, 0, 0, 0, 0);
        x.days(1000);
        x.days(1000);
        x.members(0, 3, 2000);
        rule(0, 2000, "r:1;d:7");
        sheet.due(x.best(0, 0, 0, 1000, 1), 7);
        x.members(1, 3, 0);
        rule(1, 0, "r:1;d:y");
        sheet.due(x.best(0, 0, 0, 1000, 1), 5);
        x.members(1, 2, 2000);
        sheet.due(x.best(0, 0, 0, 1000, 1), 7);
    }

    private static void bestOfMany() {
        fresh("32: the last of 256 ways is the cheapest");
        for (int part = 0; part <= 3; part++) for (int i = 0; i < 4; i++) x.offer(part, i == 3 ? 0 : 3, 0, 0, 0);
        sheet.due(x.best(0, 0, 0, 1, 1), 0);
        for (int part = 0; part <= 3; part++) sheet.due(x.chosen(0, 0, 0, 1, 1, part), 3);
        sheet.of("32: the first of 256 ways is the cheapest");
        x.offers();
        for (int part = 0; part <= 3; part++) for (int i = 0; i < 4; i++) x.offer(part, i == 0 ? 2 : 3, 0, 0, 0);
        sheet.due(x.best(0, 0, 0, 1, 1), 8);
        for (int part = 0; part <= 3; part++) sheet.due(x.chosen(0, 0, 0, 1, 1, part), 0);
    }

    private static void bestOfDearWeb(int land, int heading, int process) {
        fresh("32: the cheaper WEB may be any, the OFFER that is OWN of it any");
        for (int cheap = 0; cheap < 4; cheap++) {
            for (int dear = 0; dear < 4; dear++) {
                if (cheap == dear) continue;
                x = new MadeWhere();
                for (int web = 0; web < 4; web++) sheet.due(rule(web, 0, "r:0"), web);
                for (int web = 0; web < 4; web++) {
                    x.members(web, 1 << land | 2, 0);
                    sheet.due(rule(web, 0, "r:c=0?1;d:" + (web == cheap ? 0 : 50)), 4 + web);
                }
                x.days(cheap % 2 * 1000);
                int another = 0;
                while (another == cheap || another == dear) another++;
                x.offer(0, 10, heading, 1 << dear, land);
                x.offer(0, 11, heading, 1 << another, land);
                x.offer(0, 59, heading, 1 << cheap, land);
                x.offer(0, 59, heading, 15, land);
                sheet.due(x.best(land, heading, process, 1000, 1), 59);
                sheet.due(x.chosen(land, heading, process, 1000, 1, 0), 2);
                sheet.due(x.best(land, heading, process, 999, 1), 59);
                sheet.due(x.chosen(land, heading, process, 999, 1, 0), 0);
                sheet.due(x.best(land, heading, process, 20, 1), 11);
                sheet.due(x.chosen(land, heading, process, 20, 1, 0), 0);
            }
        }
    }

    private static void bestLandsOfParts() {
        fresh("32: o of those OWN of the WEB from other LANDS than the good's");
        for (int web = 0; web < 4; web++) x.members(web, 15, 0);
        for (int web = 0; web < 4; web++) rule(web, 0, "r:o=30?1;d:" + web);
        for (int land = 0; land < 4; land++) {
            x.offers();
            for (int part = 0; part <= 3; part++) x.offer(part, 15, 0, 15, part < 2 ? land : (land + part) % 8);
            for (int to = 0; to < 4; to++) sheet.due(x.best(land, 0, 0, 1000, to), to == land ? 160 : 60);
            for (int to = 0; to < 4; to++) sheet.due(x.best((land + 1) % 4, 0, 0, 1000, to), 160);
        }
    }

    private static void bestWithoutWebs() {
        fresh("32: without WEBS the cheapest OFFERS, whatever the LAND, HEADING, PROCESS and NOW");
        x.days(1000);
        x.days(1000);
        int[] tariffs = {0, 1, 1000};
        for (int part = 0; part <= 3; part++) {
            for (int i = 0; i < 4; i++) x.offer(part, 8 - i, 0, 15, 0);
            for (int t : tariffs) {
                x.tariff(1, 60, t);
                sheet.due(x.best(7, 60, 9, 1000, 1), 5 * (part + 1) + t);
                for (int p = 0; p <= part; p++) sheet.due(x.chosen(7, 60, 9, 1000, 1, p), 3);
            }
        }
    }

    private static void chosenLands() {
        fresh("33: from one LAND to another, not the other way round");
        x.members(0, 0b00100100, 0);
        rule(0, 0, "r:o=0?1;d:0");
        x.offer(0, 50, 3, 1, 5);
        x.offer(0, 60, 3, 1, 2);
        sheet.due(x.best(2, 3, 4, 1000, 5), 60);
        sheet.due(x.chosen(2, 3, 4, 1000, 5, 0), 1);
        sheet.due(x.best(5, 3, 4, 1000, 2), 50);
        sheet.due(x.chosen(5, 3, 4, 1000, 2, 0), 0);
        sheet.of("33: HEADING and PROCESS apart");
        rule(0, 0, "r:b=0&p=4?1;d:0");
        x.offers();
        x.offer(0, 50, 4, 0, 5);
        x.offer(0, 60, 3, 0, 5);
        sheet.due(x.chosen(2, 4, 4, 1000, 5, 0), 1);
        sheet.due(x.chosen(2, 3, 4, 1000, 5, 0), 0);
        sheet.due(x.chosen(2, 4, 3, 1000, 5, 0), 0);
    }

    /** Whether the good of LAND 0, HEADING 7, PROCESS 4 and PRICE 1,000 is OWN of WEB 0 by such a condition. */
    private static void holds(String condition, boolean want) {
        int number = rule(0, 0, "r:" + condition + "?1;d:1");
        if (number == NONE) {
            MadeWhere before = x;
            x = new MadeWhere();
            offersOfLetters();
            sheet.due(before.count(1), 20);
            rule(0, 0, "r:" + condition + "?1;d:1");
        }
        sheet.due(x.best(0, 7, 4, 1000, 1), 11111 + (want ? 1 : 100));
    }

    private static void offersOfLetters() {
        x.members(0, 3, 0);
        x.members(1, 3, 0);
        rule(1, 0, "r:0;d:0");
        x.offer(0, 1, 7, 1, 0);
        x.offer(1, 10, 7, 0, 0);
        x.offer(2, 100, 8, 2, 0);
        x.offer(3, 11000, 7, 15, 5);
    }

    private static void bestLetters() {
        fresh("32: letters as in 3, OFFERS as entries, PRICE for PRICE times MANY");
        offersOfLetters();
        String[] right = {"a=11111", "n=110", "b=10", "c=2", "o=11000", "h=7", "p=4", "y=0"};
        String[] below = {"a>11110", "n>109", "b>9", "c>1", "o>10999", "h>6", "p>3", "y<1"};
        String[] above = {"a<11112", "n<111", "b<11", "c<3", "o<11001", "h<8", "p<5", "y>0-1"};
        for (int i = 0; i < right.length; i++) {
            holds(right[i], true);
            holds("!" + right[i], false);
            holds(below[i], true);
            holds(above[i], true);
        }
    }

    private static void bestLettersAtMost() {
        fresh("32: letters cut, 10,000,000 at most");
        x.members(0, 3, 0);
        x.offer(0, 10000, 0, 0, 0);
        rule(0, 0, "r:a=1000*10000?1;d:0");
        sheet.due(x.best(0, 0, 0, 1, 1), 10000);
        sheet.due(x.best(0, 0, 0, 10, 1), 10001);
        x.offers();
        x.offer(0, 10001, 0, 0, 0);
        sheet.due(x.best(0, 0, 0, 1, 1), 10001);
        x.offers();
        for (int part = 0; part <= 3; part++) x.offer(part, 1000000, 0, 0, 0);
        rule(0, 0, "r:a=1000*10000&n=a&b=a?1;d:0");
        sheet.due(x.best(0, 0, 0, 1, 1), 4000000);
        sheet.due(x.best(0, 0, 0, 399, 1), 4000000);
        sheet.due(x.best(0, 0, 0, 401, 1), 4000040);
        rule(0, 0, "r:a=4?1;d:0");
        sheet.due(x.best(0, 0, 0, 1000000, 1), 4100000);
        rule(0, 0, "r:a=4000?1;d:0");
        sheet.due(x.best(0, 0, 0, 1000000, 1), 4000000);
        rule(0, 0, "r:a=4000?1;d:0");
        sheet.due(x.best(0, 0, 0, 999999, 1), 4000000);
    }

    private static void ties() {
        fresh("32: of several the one in which the first part that differs has the lower OFFER");
        x.members(0, 3, 0);
        rule(0, 0, "r:c=0?1;d:0");
        x.offer(0, 10, 0, 0, 0);
        x.offer(0, 10, 0, 1, 0);
        x.offer(1, 10, 0, 0, 0);
        x.offer(1, 10, 0, 1, 0);
        x.offer(1, 10, 0, 1, 0);
        sheet.due(x.best(0, 0, 0, 1000, 1), 20);
        sheet.due(x.chosen(0, 0, 0, 1000, 1, 0), 1);
        sheet.due(x.chosen(0, 0, 0, 1000, 1, 1), 1);
        sheet.due(x.best(0, 0, 0, 9, 1), 20);
        sheet.due(x.chosen(0, 0, 0, 9, 1, 0), 0);
        sheet.due(x.chosen(0, 0, 0, 9, 1, 1), 0);
        sheet.of("32: a tie between what is own and what is cheaper");
        x.offers();
        x.offer(0, 30, 0, 0, 0);
        x.offer(0, 0, 0, 0, 0);
        x.offer(0, 100, 0, 1, 0);
        sheet.due(x.best(0, 0, 0, 1000, 1), 100);
        sheet.due(x.chosen(0, 0, 0, 1000, 1, 0), 1);
        sheet.due(x.best(0, 0, 0, 1001, 1), 100);
        sheet.due(x.chosen(0, 0, 0, 1001, 1, 0), 1);
        sheet.due(x.best(0, 0, 0, 1010, 1), 100);
        sheet.due(x.chosen(0, 0, 0, 1010, 1, 0), 2);
        x.offers();
        x.offer(0, 5, 0, 0, 0);
        x.offer(0, 3, 0, 0, 0);
        x.offer(1, 3, 0, 0, 0);
        x.offer(1, 3, 0, 0, 0);
        x.offer(2, 4, 0, 0, 0);
        x.offer(2, 3, 0, 0, 0);
        x.offer(2, 3, 0, 0, 0);
        sheet.due(x.best(0, 0, 0, 1, 1), 9);
        int[] want = {1, 0, 1};
        for (int part = 0; part < 3; part++) sheet.due(x.chosen(0, 0, 0, 1, 1, part), want[part]);
    }

    private static void chosenBounds() {
        fresh("33: NONE likewise, no such part");
        for (int part = -1; part <= 4; part++) sheet.due(x.chosen(0, 0, 0, 1, 1, part), NONE);
        for (int parts = 1; parts <= 4; parts++) {
            x.offer(parts - 1, 5, 0, 0, 0);
            x.offer(parts - 1, 4, 0, 0, 0);
            for (int part = -1; part <= 5; part++) sheet.due(x.chosen(0, 0, 0, 1, 1, part), part >= 0 && part < parts ? 1 : NONE);
            for (int n : FAR) sheet.due(x.chosen(0, 0, 0, 1, 1, n), NONE);
        }
    }

    private static void wordBounds() {
        fresh("35: no such BATCH, how many (1 .. 10,000)");
        sheet.due(x.word(0, 1), NONE);
        x.grown(0, 0, 1, 10);
        int[][] bad = {{-1, 1}, {1, 1}, {0, 0}, {0, -1}, {0, 10001}};
        for (int[] b : bad) sheet.due(x.word(b[0], b[1]), NONE);
        for (int n : FAR) {
            sheet.due(x.word(n, 1), NONE);
            sheet.due(x.word(0, n), NONE);
        }
        sheet.due(x.count(7), 0);
        sheet.due(x.struck(0), 0);
        sheet.due(x.word(0, 1), 0);
        sheet.due(x.struck(0), 0);
        sheet.due(x.word(0, 10000), 1);
        sheet.due(x.struck(0), 1);
        sheet.due(x.strike(0, 0), 1);
        sheet.of("35: a WORD takes nothing of what is LEFT");
        sheet.due(Sheet.fact(x, 0, 4), 10);
    }

    private static void wordsFull() {
        fresh("35: there are 60");
        for (int b = 0; b < 6; b++) x.grown(0, 0, 1, 59);
        for (int i = 0; i < 59; i++) sheet.due(x.word(i % 6, i + 1), i);
        sheet.due(x.word(0, 0), NONE);
        sheet.due(x.word(5, 10000), 59);
        for (int b = 0; b < 6; b++) sheet.due(x.word(b, 1), NONE);
        sheet.due(x.count(7), 60);
        strikes(5, 5, 29, 35, 41, 47, 53, 59);
    }

    private static void struckBounds() {
        fresh("36 and 37: no such BATCH; NONE without");
        sheet.due(x.struck(0), NONE);
        sheet.due(x.strike(0, 0), NONE);
        x.grown(0, 0, 1, 10);
        sheet.due(x.struck(0), 0);
        sheet.due(x.strike(0, 0), NONE);
        x.word(0, 11);
        x.word(0, 12);
        for (int n : FAR) {
            sheet.due(x.struck(n), NONE);
            sheet.due(x.strike(n, 0), NONE);
            sheet.due(x.strike(0, n), NONE);
        }
        sheet.due(x.struck(-1), NONE);
        sheet.due(x.struck(1), NONE);
        sheet.due(x.strike(-1, 0), NONE);
        sheet.due(x.strike(1, 0), NONE);
        sheet.due(x.struck(0), 2);
        sheet.due(x.strike(0, -1), NONE);
        sheet.due(x.strike(0, 0), 0);
        sheet.due(x.strike(0, 1), 1);
        sheet.due(x.strike(0, 2), NONE);
    }

    private static void strikes(int batch, int... want) {
        sheet.due(x.struck(batch), want.length);
        for (int i = 0; i < want.length; i++) sheet.due(x.strike(batch, i), want[i]);
        sheet.due(x.strike(batch, want.length), NONE);
    }

    private static void struckAtMost() {
        fresh("36: they can't all be, if they are more than MANY together");
        x.grown(0, 0, 1, 100);
        x.word(0, 100);
        strikes(0);
        x.word(0, 1);
        strikes(0, 0);
        x.grown(0, 0, 1, 100);
        x.word(1, 60);
        x.word(1, 40);
        strikes(1);
        x.grown(0, 0, 1, 100);
        x.word(2, 60);
        x.word(2, 41);
        strikes(2, 4);
        x.grown(0, 0, 1, 10000);
        x.word(3, 10000);
        strikes(3);
        x.word(3, 10000);
        strikes(3, 6);
        x.grown(0, 0, 1, 10000);
        x.word(4, 1);
        x.word(4, 10000);
        strikes(4, 8);
        sheet.of("36: MANY, not what is LEFT");
        x.lay(0, 99);
        strikes(0, 0);
        x.grown(0, 0, 1, 10);
        x.word(5, 9);
        x.ship(5, 10, 1, NONE, 0);
        strikes(5);
    }

    private static void struckTwelve() {
        fresh("36: asked of at most 12 WORDS of a BATCH");
        x.grown(0, 0, 1, 12);
        x.grown(0, 0, 1, 1);
        for (int i = 0; i < 11; i++) x.word(0, 1);
        strikes(0);
        x.word(1, 2);
        x.word(0, 2);
        strikes(0, 0);
        x.word(1, 1);
        x.word(0, 1);
        sheet.due(x.struck(0), NONE);
        sheet.due(x.strike(0, 0), NONE);
        strikes(1, 11);
        for (int i = 0; i < 10; i++) x.word(1, 1);
        sheet.due(x.struck(1), 11);
        x.word(1, 1);
        sheet.due(x.struck(1), NONE);
        sheet.due(x.strike(1, 0), NONE);
    }

    private static void struckAll() {
        fresh("36: all twelve");
        x.grown(0, 0, 1, 1);
        for (int i = 0; i < 12; i++) x.word(0, 10000);
        strikes(0, 0, 1, 2, 3, 4, 5, 6, 7, 8, 9, 10, 11);
        fresh("36: all but the one that can be");
        x.grown(0, 0, 1, 1);
        for (int i = 0; i < 12; i++) x.word(0, i == 7 ? 1 : 2);
        strikes(0, 0, 1, 2, 3, 4, 5, 6, 8, 9, 10, 11);
    }

    private static void struckLower() {
        fresh("36: the fewest; of several such sets the one with the lower WORD in which they differ");
        x.grown(0, 0, 1, 100);
        int[] many = {10, 20, 30, 40, 50};
        for (int n : many) x.word(0, n);
        strikes(0, 4);
        x.word(0, 10);
        strikes(0, 0, 4);
        x.word(0, 40);
        strikes(0, 0, 3, 4);
        sheet.of("36: a lower WORD goes before a greater one that frees more");
        x.grown(0, 0, 1, 10);
        int[] more = {3, 9, 4, 9, 5};
        for (int n : more) x.word(1, n);
        strikes(1, 7, 8, 10);
        sheet.of("36: what is struck already frees no more");
        x.grown(0, 0, 1, 5);
        int[] last = {1, 1, 9, 3, 5, 6};
        for (int n : last) x.word(2, n);
        strikes(2, 14, 16, 17);
    }

    private static void struckApart() {
        fresh("36: each BATCH by its own WORDS, whichever was asked before");
        x.grown(0, 0, 1, 10000);
        x.grown(0, 0, 1, 4);
        for (int i = 0; i < 12; i++) x.word(0, 900);
        for (int i = 0; i < 3; i++) x.word(1, 5);
        for (int again = 0; again < 2; again++) {
            strikes(0, 0);
            strikes(1, 12, 13, 14);
        }
    }
}
