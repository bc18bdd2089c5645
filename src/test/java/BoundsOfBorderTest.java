import java.math.BigInteger;

/** Boundary cases of SHIPMENTS, PAPERS, STATE, QUOTA, DUTY, BOOKING, LINES, DRAWING and counts (promises 24 to 29, 38, 39). */
public final class BoundsOfBorderTest {
    private static final int NONE = MadeWhere.NONE;
    private static final long NO_LINE = -1_000_000_000_000L;
    private static final int[] FAR = {Integer.MIN_VALUE, -1000, Integer.MAX_VALUE};
    private static final Sheet sheet = new Sheet();
    private static MadeWhere x;

    public static void main(String[] args) {
        shipBounds();
        shipFull();
        paperBounds();
        paperFull();
        paperInTime();
        stateBounds();
        stateOrder();
        stateLands();
        stateDays();
        stateWebs();
        stateAfterBooking();
        stateStops();
        statePapers();
        stateLate();
        quotaAtMost();
        quotaWhose();
        quotaApart();
        quotaOwn();
        quotaYears();
        quotaAnew();
        dutyBounds();
        dutyRates();
        dutyCut();
        dutyLetters();
        bookDifferences();
        bookFull();
        bookTooMuch();
        lineBounds();
        sumsOfLines();
        checkBounds();
        checkWeights();
        checkWebs();
        checkAfterBooking();
        checkMost();
        checkGoingRound();
        checkAnew();
        checkNow();
        bookNow();
        bookApart();
        countBounds();
        manyCalls();
        sheet.end();
    }

    private static void fresh(String sentence) {
        sheet.of(sentence);
        x = new MadeWhere();
    }

    private static int rule(int web, int from, String text) { return Sheet.rule(x, web, from, text); }

    /** LANDS 0 to 3 are MEMBERS of WEB 0; BATCHES 0 (HEADING 7) and 1 (HEADING 8) are grown in LAND 0. */
    private static void road(String text) {
        x.members(0, 15, 0);
        rule(0, 0, text);
        x.grown(0, 7, 10, 10000);
        x.grown(0, 8, 10, 10000);
    }

    private static void states(int q, int... want) {
        for (int s = 0; s < want.length; s++) sheet.due(x.state(s, q), want[s]);
    }

    private static void shipBounds() {
        fresh("24: no such BATCH, how many, LAND, WEB (NONE: none), STOPS, more than are LEFT");
        sheet.due(x.ship(0, 1, 0, NONE, 0), NONE);
        x.grown(0, 0, 1, 10);
        int[][] bad = {{-1, 1, 0, 0, 0}, {1, 1, 0, 0, 0}, {0, 0, 0, 0, 0}, {0, -1, 0, 0, 0}, {0, 11, 0, 0, 0}, {0, 1, -1, 0, 0}, {0, 1, 8, 0, 0},
            {0, 1, 0, -2, 0}, {0, 1, 0, 4, 0}, {0, 1, 0, 0, -1}, {0, 1, 0, 0, 401}};
        for (int[] b : bad) sheet.due(x.ship(b[0], b[1], b[2], b[3], b[4]), NONE);
        for (int n : FAR) {
            sheet.due(x.ship(n, 1, 0, 0, 0), NONE);
            sheet.due(x.ship(0, n, 0, 0, 0), NONE);
            sheet.due(x.ship(0, 1, n, 0, 0), NONE);
            sheet.due(x.ship(0, 1, 0, n, 0), NONE);
            sheet.due(x.ship(0, 1, 0, 0, n), NONE);
        }
        sheet.due(x.count(4), 0);
        sheet.due(Sheet.fact(x, 0, 4), 10);
        sheet.due(x.ship(0, 1, 0, NONE, 0), 0);
        sheet.due(x.ship(0, 1, 7, 3, 400), 1);
        sheet.due(x.ship(0, 9, 0, 0, 0), NONE);
        sheet.due(Sheet.fact(x, 0, 4), 8);
        x.lay(0, 3);
        x.pour(0, 0, 2);
        sheet.due(x.ship(0, 4, 0, 0, 0), NONE);
        sheet.due(x.ship(0, 3, 0, 0, 0), 2);
        sheet.due(x.ship(0, 1, 0, 0, 0), NONE);
        sheet.due(x.clear(), 1);
        sheet.due(x.ship(0, 4, 0, 0, 0), NONE);
        sheet.due(x.ship(0, 3, 0, 0, 0), 3);
        sheet.due(Sheet.fact(x, 0, 4), 0);
    }

    private static void shipFull() {
        fresh("24: there are 100");
        x.grown(0, 0, 1, 10000);
        for (int s = 0; s < 99; s++) sheet.due(x.ship(0, 1, 1, NONE, 0), s);
        sheet.due(x.ship(0, 1, 8, NONE, 0), NONE);
        sheet.due(x.ship(0, 1, 1, 3, 400), 99);
        sheet.due(x.ship(0, 1, 1, NONE, 0), NONE);
        sheet.due(x.ship(0, 9900, 1, 3, 0), NONE);
        sheet.due(x.count(4), 100);
        sheet.due(Sheet.fact(x, 0, 4), 9900);
        sheet.due(x.state(99, 0), 2);
        sheet.due(x.state(100, 0), NONE);
    }

    private static void paperBounds() {
        fresh("25: no such SHIPMENT, DAY (0 .. 2,000)");
        sheet.due(x.paper(0, 0), false);
        road("r:1;g:2000;s:400");
        x.days(1);
        x.ship(0, 1, 1, 0, 0);
        int[][] bad = {{-1, 0}, {1, 0}, {0, -1}, {0, 2001}};
        for (int[] b : bad) sheet.due(x.paper(b[0], b[1]), false);
        for (int n : FAR) {
            sheet.due(x.paper(n, 0), false);
            sheet.due(x.paper(0, n), false);
        }
        sheet.due(x.state(0, 1), 5);
        sheet.due(x.paper(0, 2000), true);
        sheet.due(x.state(0, 1), 1);
        sheet.due(x.paper(0, 0), true);
        sheet.due(x.state(0, 1), 1);
    }

    private static void paperFull() {
        fresh("25: there were 100");
        road("r:1;s:400");
        x.ship(0, 1, 1, 0, 0);
        x.ship(0, 1, 1, 0, 0);
        for (int i = 0; i < 99; i++) sheet.due(x.paper(i % 2, 1), true);
        states(0, 5, 5);
        sheet.due(x.paper(0, -1), false);
        sheet.due(x.paper(1, 0), true);
        states(0, 5, 1);
        sheet.due(x.paper(0, 0), false);
        sheet.due(x.paper(1, 1), false);
        states(0, 5, 1);
        x.days(1);
        sheet.due(x.paper(0, 0), false);
        states(1, 5, 1);
    }

    private static void paperInTime() {
        fresh("25: told again: as known in q the one told last");
        road("r:1;s:400");
        x.ship(0, 1, 1, 0, 0);
        x.ship(0, 1, 1, 0, 0);
        x.days(1);
        x.paper(0, 0);
        x.days(1);
        x.paper(0, 9);
        x.paper(0, 8);
        x.days(1);
        x.paper(0, 8);
        x.paper(0, 0);
        x.paper(1, 5);
        int[] want = {5, 1, 5, 1};
        for (int q = 0; q <= 3; q++) sheet.due(x.state(0, q), want[q]);
        for (int q = 0; q <= 3; q++) sheet.due(x.state(1, q), 5);
    }

    private static void stateBounds() {
        fresh("26 and 27: NONE: no such ones, it was told behind q");
        sheet.due(x.state(0, 0), NONE);
        sheet.due(x.duty(0, 0), NONE);
        x.days(5);
        x.grown(0, 0, 10, 10);
        x.ship(0, 5, 0, NONE, 0);
        x.days(2);
        x.ship(0, 4, 0, NONE, 0);
        int[][] bad = {{-1, 7}, {2, 7}, {0, 4}, {0, 8}, {0, -1}, {1, 6}};
        for (int[] b : bad) {
            sheet.due(x.state(b[0], b[1]), NONE);
            sheet.due(x.duty(b[0], b[1]), NONE);
        }
        for (int n : FAR) {
            sheet.due(x.state(n, 7), NONE);
            sheet.due(x.state(0, n), NONE);
            sheet.due(x.duty(n, 7), NONE);
            sheet.due(x.duty(0, n), NONE);
        }
        for (int q = 5; q <= 7; q++) {
            sheet.due(x.state(0, q), 0);
            sheet.due(x.duty(0, q), 5);
        }
        sheet.due(x.state(1, 7), 0);
        sheet.due(x.duty(1, 7), 4);
    }

    private static void stateOrder() {
        fresh("26: the first that holds");
        x.members(0, 3, 0);
        rule(0, 0, "s:5;g:3;z:10");
        x.grown(2, 7, 1, 100);
        x.grown(0, 7, 1, 100);
        x.grown(1, 7, 1, 100);
        x.undo(1);
        x.lay(2, 1);
        x.made(0, 7, 0, 1, 100);
        x.ship(0, 11, 2, NONE, 6);
        x.ship(0, 11, 1, 0, 6);
        x.ship(1, 11, 1, 0, 6);
        x.ship(3, 11, 1, 0, 6);
        x.ship(2, 11, 0, 0, 6);
        x.ship(2, 11, 0, 0, 5);
        x.ship(2, 11, 0, 0, 5);
        x.ship(2, 10, 0, 0, 5);
        x.paper(5, 4);
        x.paper(6, 3);
        x.paper(7, 3);
        states(0, 0, 2, 3, 3, 4, 5, 6, 1);
        for (int s = 0; s < 5; s++) x.paper(s, 0);
        states(0, 0, 2, 3, 3, 4, 5, 6, 1);
        sheet.due(x.count(10), 1);
    }

    private static void stateLands() {
        fresh("26: the BATCH's LAND or the LAND it goes to is no MEMBER on the SHIPMENT's DAY (or both are one)");
        for (int land = 0; land < 8; land++) x.grown(land, 0, 1, 1000);
        x.members(1, 0b10100101, 0);
        rule(1, 0, "r:1;s:400;g:2000");
        for (int from = 0; from < 8; from++) {
            for (int to = 0; to < 8; to++) {
                int s = x.ship(from, 1, to, 1, 0);
                x.paper(s, 0);
                boolean both = (0b10100101 >> from & 0b10100101 >> to & 1) == 1;
                sheet.due(x.state(s, 0), both && from != to ? 1 : 2);
            }
        }
        fresh("26: MEMBERS on the SHIPMENT's DAY, not the BATCH's, not NOW");
        x.members(0, 3, 0);
        rule(0, 0, "s:400;g:2000");
        x.grown(0, 0, 1, 10);
        x.days(10);
        x.ship(0, 1, 1, 0, 0);
        x.paper(0, 0);
        sheet.due(x.state(0, 10), 1);
        x.members(0, 0, 11);
        sheet.due(x.state(0, 10), 1);
        x.days(1);
        sheet.due(x.state(0, 11), 1);
        x.members(0, 1, 10);
        sheet.due(x.state(0, 10), 1);
        sheet.due(x.state(0, 11), 2);
        x.members(0, 2, 10);
        sheet.due(x.state(0, 11), 2);
        x.members(0, 3, 10);
        sheet.due(x.state(0, 11), 1);
        x.members(0, 2, 9);
        sheet.due(x.state(0, 11), 1);
        x.members(0, 2, 0);
        sheet.due(x.state(0, 11), 3);
    }

    private static void stateDays() {
        fresh("26: MEMBERS on each SHIPMENT's own DAY");
        x.members(1, 255, 0);
        x.members(1, 255 - 16, 5);
        x.members(1, 255, 10);
        rule(1, 0, "s:400;g:2000");
        for (int land = 0; land < 8; land++) x.grown(7 - land, 0, 1, 1000);
        int[] days = {0, 4, 5, 9, 10};
        for (int day : days) {
            x.days(day - x.count(0));
            for (int b = 0; b < 8; b++) {
                int s = x.ship(b, 1, (3 + b) % 8, 1, 0);
                x.paper(s, 0);
                int from = 7 - b, to = (3 + b) % 8;
                boolean without = day >= 5 && day < 10 && (from == 4 || to == 4);
                sheet.due(x.state(s, day), without || from == to ? 2 : 1);
            }
        }
        sheet.due(x.count(4), 40);
        for (int s = 0; s < 40; s++) {
            int b = s % 8, from = 7 - b, to = (3 + b) % 8, day = days[s / 8];
            boolean without = day >= 5 && day < 10 && (from == 4 || to == 4);
            sheet.due(x.state(s, 10), without || from == to ? 2 : 1);
        }
    }

    private static void stateWebs() {
        fresh("26 and 27: whichever WEB is claimed");
        for (int web = 0; web < 4; web++) {
            x.members(web, 3, 0);
            rule(web, 0, "r:1;g:2000;d:" + (web + 1));
        }
        x.grown(0, 7, 10, 1000);
        x.lay(0, 1);
        x.made(0, 7, 0, 10, 1000);
        for (int b = 0; b < 2; b++) {
            for (int web = 0; web < 4; web++) {
                int s = x.ship(b, 100, 1, web, 0);
                x.paper(s, 0);
                sheet.due(x.state(s, 0), 1);
                sheet.due(x.duty(s, 0), web + 1);
            }
        }
        sheet.due(x.count(10), 8);
        for (int web = 3; web >= 0; web--) {
            rule(web, 0, "r:0;g:2000;d:" + (web + 5));
            for (int s = 0; s < 8; s++) {
                boolean anew = s % 4 >= web;
                sheet.due(x.state(s, 0), anew && s > 3 ? 3 : 1);
                sheet.due(x.duty(s, 0), !anew ? s % 4 + 1 : s > 3 ? 100 : s % 4 + 5);
            }
        }
    }

    private static void stateAfterBooking() {
        fresh("26 and 27: as known in q, whatever was booked behind it");
        road("g:2000;d:1");
        x.days(3);
        send(0, 1000);
        send(1, 2000);
        x.days(2);
        sheet.due(x.book(), 2);
        x.undo(0);
        sheet.due(x.book(), 1);
        for (int q = 3; q <= 5; q++) {
            sheet.due(x.state(0, 5), 3);
            sheet.due(x.state(0, q), q < 5 ? 1 : 3);
            sheet.due(x.duty(0, q), q < 5 ? 10 : 1000);
            sheet.due(x.state(1, q), 1);
            sheet.due(x.duty(1, q), 20);
        }
    }

    private static void stateStops() {
        fresh("26: STOPS are more than WORTH of s");
        road("s:5;g:2000");
        int[] stops = {0, 4, 5, 6, 400};
        for (int s = 0; s < 5; s++) {
            x.ship(0, 1, 1, 0, stops[s]);
            x.paper(s, 0);
        }
        states(0, 1, 1, 1, 4, 4);
        rule(0, 0, "s:400;g:2000");
        states(0, 1, 1, 1, 1, 1);
        rule(0, 0, "s:399;g:2000");
        states(0, 1, 1, 1, 1, 4);
        rule(0, 0, "g:2000");
        states(0, 1, 4, 4, 4, 4);
        rule(0, 0, "s:0-1;g:2000");
        states(0, 4, 4, 4, 4, 4);
        rule(0, 0, "s:h-3;g:2000");
        states(0, 1, 1, 4, 4, 4);
    }

    private static void statePapers() {
        fresh("26: no PAPER known, or one for a DAY behind the SHIPMENT's and WORTH of g");
        road("g:30");
        x.days(100);
        int[] days = {0, 100, 129, 130, 131, 2000};
        for (int s = 0; s < 6; s++) {
            x.ship(0, 1, 1, 0, 0);
            x.paper(s, days[s]);
        }
        x.ship(0, 1, 1, 0, 0);
        states(100, 1, 1, 1, 1, 5, 5, 5);
        rule(0, 100, "g:0");
        states(100, 1, 1, 5, 5, 5, 5, 5);
        rule(0, 100, "s:0");
        states(100, 1, 1, 5, 5, 5, 5, 5);
        rule(0, 100, "g:0-1");
        states(100, 1, 5, 5, 5, 5, 5, 5);
        rule(0, 100, "g:0-100");
        states(100, 1, 5, 5, 5, 5, 5, 5);
        rule(0, 100, "g:0-101");
        states(100, 5, 5, 5, 5, 5, 5, 5);
        rule(0, 100, "g:1900");
        states(100, 1, 1, 1, 1, 1, 1, 5);
        rule(0, 100, "g:1899");
        states(100, 1, 1, 1, 1, 1, 5, 5);
        rule(0, 100, "g:99999*99999");
        states(100, 1, 1, 1, 1, 1, 1, 5);
        rule(0, 100, "g:0-99999*99999");
        states(100, 5, 5, 5, 5, 5, 5, 5);
    }

    private static void stateLate() {
        fresh("26: by the PROTOCOL IN FORCE on the SHIPMENT's DAY");
        road("s:1;g:2000");
        x.days(10);
        x.ship(0, 1, 1, 0, 1);
        x.paper(0, 0);
        rule(0, 11, "s:0;g:2000");
        states(10, 1);
        rule(0, 9, "s:0;g:2000");
        states(10, 4);
        x.days(1);
        rule(0, 10, "s:1;g:2000");
        states(10, 4);
        states(11, 1);
        sheet.of("26: without a PROTOCOL s, g, z and d are 0");
        x.members(1, 3, 0);
        x.grown(0, 7, 10, 10);
        x.ship(2, 1, 1, 1, 0);
        x.ship(2, 1, 1, 1, 1);
        x.ship(2, 1, 1, 1, 0);
        x.paper(1, 11);
        x.paper(2, 11);
        x.paper(3, 12);
        states(11, 1, 1, 4, 5);
        sheet.due(x.duty(1, 11), 0);
    }

    /** So many to LAND 1 by WEB 0, with a PAPER. */
    private static int send(int batch, int many) {
        int s = x.ship(batch, many, 1, 0, 0);
        x.paper(s, 0);
        return s;
    }

    private static void quotaAtMost() {
        fresh("26: how many it and those taken so far are together is at most QUOTA");
        road("g:2000;z:10");
        send(0, 11);
        send(0, 10);
        send(0, 1);
        states(0, 6, 1, 6);
        fresh("26: those over QUOTA are not taken, later ones may be");
        road("g:2000;z:10");
        int[] many = {4, 7, 5, 2, 1, 1};
        for (int n : many) send(0, n);
        states(0, 1, 6, 1, 6, 1, 6);
        sheet.of("26: QUOTA is WORTH of z, if above 0");
        rule(0, 0, "g:2000;z:1");
        states(0, 6, 6, 6, 6, 1, 6);
        rule(0, 0, "g:2000;z:0");
        states(0, 1, 1, 1, 1, 1, 1);
        rule(0, 0, "g:2000;z:0-1");
        states(0, 1, 1, 1, 1, 1, 1);
        rule(0, 0, "g:2000");
        states(0, 1, 1, 1, 1, 1, 1);
        rule(0, 0, "g:2000;z:20");
        states(0, 1, 1, 1, 1, 1, 1);
        rule(0, 0, "g:2000;z:19");
        states(0, 1, 1, 1, 1, 1, 6);
        rule(0, 0, "g:2000;z:3");
        states(0, 6, 6, 6, 1, 1, 6);
    }

    private static void quotaWhose() {
        fresh("26: to that LAND, by that WEB, of that HEADING");
        road("g:2000;z:10");
        x.members(1, 15, 0);
        rule(1, 0, "g:2000;z:10");
        x.ship(0, 10, 1, 0, 0);
        x.ship(0, 10, 2, 0, 0);
        x.ship(0, 10, 1, 1, 0);
        x.ship(1, 10, 1, 0, 0);
        x.ship(0, 1, 1, 0, 0);
        x.ship(0, 1, 2, 0, 0);
        x.ship(0, 1, 1, 1, 0);
        x.ship(1, 1, 1, 0, 0);
        for (int s = 0; s < 8; s++) x.paper(s, 0);
        states(0, 1, 1, 1, 1, 6, 6, 6, 6);
        sheet.of("26: of another BATCH, from another LAND, of that HEADING");
        x.grown(2, 7, 10, 100);
        x.ship(2, 1, 1, 0, 0);
        x.paper(8, 0);
        sheet.due(x.state(8, 0), 6);
        fresh("26: for which none of 0, 2 to 5 holds");
        road("g:2000;z:10");
        x.grown(0, 7, 10, 100);
        x.undo(2);
        x.grown(5, 7, 10, 100);
        x.ship(0, 10, 1, NONE, 0);
        x.ship(3, 10, 1, 0, 0);
        x.ship(2, 10, 1, 0, 0);
        x.ship(0, 10, 1, 0, 1);
        x.ship(0, 10, 1, 0, 0);
        x.ship(0, 10, 1, 0, 0);
        x.ship(0, 1, 1, 0, 0);
        for (int s = 0; s < 7; s++) if (s != 4) x.paper(s, 0);
        states(0, 0, 2, 3, 4, 5, 1, 6);
        x.paper(4, 0);
        states(0, 0, 2, 3, 4, 1, 6, 6);
    }

    private static void quotaApart() {
        fresh("26: another LAND, WEB or HEADING, lower or higher, has a QUOTA apart");
        int[][] kinds = {{0, 1, 1}, {1, 1, 1}, {0, 2, 1}, {0, 1, 2}, {1, 2, 1}, {0, 2, 2}, {1, 1, 2}, {1, 2, 2}};
        for (int[] one : kinds) {
            for (int[] other : kinds) {
                x = new MadeWhere();
                for (int web = 1; web <= 2; web++) {
                    x.members(web, 15, 0);
                    rule(web, 0, "g:2000;z:10");
                }
                x.grown(0, 7, 10, 100);
                x.grown(0, 8, 10, 100);
                int[][] sent = {one, other, one, other};
                for (int s = 0; s < 4; s++) {
                    x.ship(sent[s][0], s < 2 ? 10 : 1, sent[s][1], sent[s][2], 0);
                    x.paper(s, 0);
                }
                states(0, 1, one == other ? 6 : 1, 6, 6);
            }
        }
    }

    private static void quotaOwn() {
        fresh("26: each by its own WORTH of z; one that has no QUOTA is taken");
        road("g:2000;z:5");
        send(0, 5);
        send(0, 1);
        x.days(1);
        rule(0, 1, "g:2000");
        send(0, 100);
        x.days(1);
        rule(0, 2, "g:2000;z:106");
        send(0, 2);
        send(0, 1);
        x.days(1);
        rule(0, 3, "g:2000;z:106");
        send(0, 1);
        x.days(1);
        rule(0, 4, "g:2000;z:107");
        send(0, 1);
        states(4, 1, 6, 1, 6, 1, 6, 1);
    }

    private static void quotaYears() {
        fresh("26: in that year, that is DAY by 360, cut");
        road("g:2000;z:10");
        int[] days = {0, 359, 360, 719, 720, 1079, 1080, 1799, 1800, 2000};
        for (int day : days) {
            x.days(day - x.count(0));
            send(0, 10);
            send(0, 1);
        }
        for (int i = 0; i < days.length; i++) {
            boolean first = i == 0 || days[i] / 360 != days[i - 1] / 360;
            sheet.due(x.state(2 * i, 2000), first ? 1 : 6);
            sheet.due(x.state(2 * i + 1, 2000), 6);
        }
        fresh("26: letter y is the SHIPMENT's year, letter h its HEADING");
        road("s:h-7;g:2000;z:y+h");
        x.days(359);
        send(0, 8);
        send(0, 7);
        x.days(1);
        send(0, 9);
        send(0, 8);
        send(1, 10);
        send(1, 9);
        x.days(360);
        send(0, 10);
        send(0, 9);
        states(720, 6, 1, 6, 1, 6, 1, 6, 1);
    }

    private static void quotaAnew() {
        fresh("26: all judged anew as known in q");
        road("g:2000;z:10");
        send(0, 10);
        x.grown(0, 7, 10, 100);
        send(2, 10);
        x.days(1);
        send(2, 10);
        x.days(1);
        x.undo(0);
        x.days(1);
        x.paper(1, 2000);
        rule(0, 0, "g:1999;z:10");
        sheet.due(x.state(0, 0), 1);
        sheet.due(x.state(1, 0), 6);
        states(1, 1, 6, 6);
        states(2, 3, 1, 6);
        states(3, 3, 5, 1);
    }

    private static void dutyBounds() {
        fresh("27: with STATE 1 WORTH of d (within 0 .. 1,000), else TARIFF");
        road("g:2000;d:1");
        x.tariff(1, 7, 77);
        x.ship(0, 100, 1, 0, 0);
        x.ship(0, 100, 1, NONE, 0);
        x.ship(0, 100, 4, 0, 0);
        x.ship(0, 100, 1, 0, 1);
        x.ship(0, 100, 1, 0, 0);
        for (int s = 0; s < 4; s++) x.paper(s, 0);
        long[] want = {1, 77, 100, 77, 77};
        for (int s = 0; s < 5; s++) sheet.due(x.duty(s, 0), want[s]);
        x.undo(0);
        sheet.due(x.state(0, 0), 3);
        sheet.due(x.duty(0, 0), 77);
        fresh("27: TARIFF where STATE is 6");
        road("g:2000;d:1;z:1");
        send(0, 200);
        sheet.due(x.state(0, 0), 6);
        sheet.due(x.duty(0, 0), 200);
    }

    private static void dutyRates() {
        fresh("27: WORTH of d at its edges");
        String[] d = {"0-99999*99999", "0-1", "0", "1", "999", "1000", "1001", "99999*99999"};
        int[] want = {0, 0, 0, 1, 999, 1000, 1000, 1000};
        road("g:2000");
        send(0, 100);
        sheet.due(x.duty(0, 0), 0);
        for (int i = 0; i < d.length; i++) {
            rule(0, 0, "g:2000;d:" + d[i]);
            sheet.due(x.duty(0, 0), want[i]);
        }
        rule(0, 0, "g:2000");
        sheet.due(x.duty(0, 0), 0);
    }

    private static void dutyCut() {
        fresh("27: PRICE times how many times thousandths, by 1,000, cut");
        x.grown(0, 0, 1, 10000);
        x.grown(0, 0, 1, 10000);
        x.grown(0, 0, 10000, 10000);
        x.ship(0, 999, 1, NONE, 0);
        x.ship(0, 1000, 1, NONE, 0);
        x.ship(1, 1, 1, NONE, 0);
        x.ship(2, 10000, 2, NONE, 0);
        x.tariff(1, 0, 1);
        long[] want = {0, 1, 0};
        for (int s = 0; s < 3; s++) sheet.due(x.duty(s, 0), want[s]);
        x.tariff(1, 0, 999);
        long[] more = {998, 999, 0};
        for (int s = 0; s < 3; s++) sheet.due(x.duty(s, 0), more[s]);
        x.tariff(1, 0, 1000);
        sheet.due(x.duty(2, 0), 1);
        x.tariff(1, 0, 0);
        sheet.due(x.duty(2, 0), 0);
        sheet.of("27: what passes an int's range before it is cut");
        x.tariff(2, 0, 1000);
        sheet.due(x.duty(3, 0), 100_000_000);
        x.tariff(2, 0, 999);
        sheet.due(x.duty(3, 0), 99_900_000);
        x.tariff(2, 0, 22);
        sheet.due(x.duty(3, 0), 2_200_000);
        x.tariff(2, 0, 43);
        sheet.due(x.duty(3, 0), 4_300_000);
        x.mend(2, 9999);
        sheet.due(x.duty(3, 0), 4_299_570);
    }

    private static void dutyLetters() {
        fresh("27: letters h and y in d; PRICE as known in q");
        road("g:2000;d:h+y*100");
        x.days(719);
        send(0, 100);
        send(1, 100);
        x.days(1);
        send(0, 100);
        long[] want = {107, 108, 207};
        for (int s = 0; s < 3; s++) sheet.due(x.duty(s, 720), want[s]);
        x.mend(0, 20);
        sheet.due(x.duty(0, 719), 107);
        sheet.due(x.duty(0, 720), 214);
        sheet.due(x.duty(1, 720), 108);
    }

    private static void bookDifferences() {
        fresh("28: SHIPMENTS by numbers, of which DUTY is another than BOOKED so far, have a LINE with the difference");
        sheet.due(x.book(), 0);
        x.grown(0, 0, 10, 1000);
        x.ship(0, 100, 1, NONE, 0);
        x.ship(0, 200, 2, NONE, 0);
        x.ship(0, 1, 3, NONE, 0);
        x.tariff(3, 0, 0);
        sheet.due(x.book(), 2);
        sheet.due(x.book(), 0);
        x.days(3);
        x.tariff(1, 0, 0);
        x.tariff(3, 0, 1000);
        sheet.due(x.book(), 2);
        x.tariff(1, 0, 1);
        sheet.due(x.book(), 1);
        x.tariff(2, 0, 50);
        x.tariff(2, 0, 100);
        sheet.due(x.book(), 0);
        long[][] want = {{0, 100, 0}, {1, 200, 0}, {0, -100, 3}, {2, 10, 3}, {0, 1, 3}};
        sheet.due(x.count(5), 5);
        for (int i = 0; i < 5; i++) for (int what = 0; what < 3; what++) sheet.due(x.line(i, what), want[i][what]);
        sheet.of("28: DUTY as known NOW");
        x.mend(0, 20);
        x.days(1);
        x.mend(0, 10);
        sheet.due(x.book(), 0);
    }

    private static void bookFull() {
        fresh("28: 400 LINES at most");
        for (int i = 0; i < 100; i++) {
            x.grown(0, i / 50, 10000, 10000);
            x.ship(i, 100, 1, NONE, 0);
        }
        for (int i = 1; i <= 3; i++) {
            x.tariff(1, 0, i);
            x.tariff(1, 1, i);
            sheet.due(x.book(), 100);
        }
        x.tariff(1, 0, 9);
        sheet.due(x.book(), 50);
        x.tariff(1, 1, 9);
        sheet.due(x.book(), 50);
        sheet.due(x.count(5), 400);
        sheet.due(x.book(), 0);
        x.tariff(1, 1, 8);
        sheet.due(x.book(), NONE);
        sheet.due(x.count(5), 400);
        x.tariff(1, 1, 9);
        sheet.due(x.book(), 0);
        sheet.due(x.line(399, 0), 99);
        sheet.due(x.line(399, 1), 6000);
        sheet.due(x.line(400, 0), NO_LINE);
    }

    private static void bookTooMuch() {
        fresh("28: then it is refused, all of it");
        x.grown(0, 0, 10000, 10000);
        x.grown(0, 1, 10000, 10000);
        for (int s = 0; s < 99; s++) x.ship(0, 100, 1, NONE, 0);
        x.ship(1, 100, 1, NONE, 0);
        for (int i = 1; i <= 3; i++) {
            x.tariff(1, 0, i);
            sheet.due(x.book(), i == 1 ? 100 : 99);
        }
        x.tariff(1, 0, 4);
        sheet.due(x.book(), 99);
        sheet.due(x.count(5), 397);
        x.tariff(1, 0, 5);
        sheet.due(x.book(), NONE);
        sheet.due(x.count(5), 397);
        sheet.due(x.line(397, 0), NO_LINE);
        int sum = x.count(6);
        sheet.of("28: what was refused is not BOOKED");
        x.tariff(1, 0, 4);
        sheet.due(x.book(), 0);
        x.tariff(1, 1, 7);
        sheet.due(x.book(), 1);
        sheet.due(x.line(397, 0), 99);
        x.tariff(1, 1, 8);
        sheet.due(x.book(), 1);
        sheet.due(x.line(398, 1), 1000);
        x.tariff(1, 1, 9);
        sheet.due(x.book(), 1);
        x.tariff(1, 1, 10);
        sheet.due(x.book(), NONE);
        sheet.due(x.count(5), 400);
        sheet.due(x.count(6), sum - 100 + 9);
    }

    private static void lineBounds() {
        fresh("29: -1,000,000,000,000 for others");
        sheet.due(x.line(0, 0), NO_LINE);
        x.days(7);
        x.grown(0, 0, 10, 1000);
        x.ship(0, 100, 1, NONE, 0);
        sheet.due(x.line(0, 0), NO_LINE);
        x.book();
        x.days(1);
        long[] want = {0, 100, 7};
        for (int what = 0; what < 3; what++) sheet.due(x.line(0, what), want[what]);
        sheet.due(x.line(0, 3), NO_LINE);
        sheet.due(x.line(0, -1), NO_LINE);
        sheet.due(x.line(1, 0), NO_LINE);
        sheet.due(x.line(-1, 0), NO_LINE);
        for (int n : FAR) {
            sheet.due(x.line(n, 0), NO_LINE);
            sheet.due(x.line(0, n), NO_LINE);
        }
    }

    private static void sumsOfLines() {
        fresh("39: coins of all LINES by 1,000, cut");
        x.grown(0, 0, 1, 10000);
        x.ship(0, 999, 1, NONE, 0);
        x.ship(0, 1, 2, NONE, 0);
        x.tariff(1, 0, 1000);
        x.tariff(2, 0, 0);
        sheet.due(x.book(), 1);
        sheet.due(x.count(6), 0);
        x.tariff(2, 0, 1000);
        sheet.due(x.book(), 1);
        sheet.due(x.count(6), 1);
        x.tariff(1, 0, 999);
        sheet.due(x.book(), 1);
        sheet.due(x.count(6), 0);
        fresh("39: coins that pass an int's range together");
        for (int i = 0; i < 100; i++) {
            x.grown(0, 0, 10000, 10000);
            x.ship(i, 10000, 1, NONE, 0);
        }
        x.tariff(1, 0, 1000);
        sheet.due(x.book(), 100);
        sheet.due(x.line(99, 1), 100_000_000);
        sheet.due(x.count(6), 10_000_000);
        x.tariff(1, 0, 0);
        sheet.due(x.book(), 100);
        sheet.due(x.line(199, 1), -100_000_000);
        sheet.due(x.count(6), 0);
        x.tariff(1, 0, 217);
        sheet.due(x.book(), 100);
        sheet.due(x.count(6), 2_170_000);
    }

    private static void checkBounds() {
        fresh("38: NONE: i, n below 1 or more than there are");
        sheet.due(x.check(1, 0, 0), NONE);
        sheet.due(x.check(0, 0, 0), NONE);
        road("g:2000");
        x.ship(0, 1, 1, 0, 0);
        sheet.due(x.check(1, 0, 0), NONE);
        x.paper(0, 0);
        sheet.due(x.check(1, 0, 0), 0);
        sheet.due(x.check(1, 0, 1), NONE);
        sheet.due(x.check(2, 0, 0), NONE);
        x.ship(0, 1, 1, NONE, 0);
        sheet.due(x.check(2, 0, 0), NONE);
        int two = send(0, 1);
        int three = send(0, 1);
        sheet.due(x.count(10), 3);
        int[] bad = {-1, 0, 4};
        for (int n : bad) sheet.due(x.check(n, 5, 0), NONE);
        for (int n = 1; n <= 3; n++) {
            for (int i = 0; i < n; i++) sheet.due(x.check(n, 5, i) == NONE, false);
            sheet.due(x.check(n, 5, n), NONE);
            sheet.due(x.check(n, 5, -1), NONE);
        }
        sheet.due(x.check(3, 5, 0) + x.check(3, 5, 1) + x.check(3, 5, 2), two + three);
        for (int n : FAR) {
            sheet.due(x.check(n, 5, 0), NONE);
            sheet.due(x.check(3, 5, n), NONE);
            sheet.due(x.check(n, 5, n), NONE);
        }
        sheet.of("38: STATE 1 as known NOW");
        x.undo(0);
        sheet.due(x.check(1, 5, 0), NONE);
    }

    private static final BigInteger ROUND = BigInteger.ONE.shiftLeft(64);

    /** Which are drawn, told by numbers without bounds. */
    private static int[] drawn(long seed, int[] weights) {
        int[] left = weights.clone();
        int[] drawn = new int[weights.length];
        BigInteger at = BigInteger.valueOf(seed).mod(ROUND);
        for (int i = 0; i < drawn.length; i++) {
            at = at.multiply(new BigInteger("6364136223846793005")).add(new BigInteger("1442695040888963407")).mod(ROUND);
            long sum = 0;
            for (int w : left) sum += w;
            if (sum == 0) break;
            long place = at.shiftRight(33).mod(BigInteger.valueOf(sum)).longValue();
            int s = 0;
            while (place >= left[s]) place -= left[s++];
            drawn[i] = s;
            left[s] = 0;
        }
        return drawn;
    }

    private static void checkWeights() {
        fresh("38: each weighs 1 and the hundredth part, cut, of letter n of its BATCH by its WEB (of a GROWN one 0)");
        x.members(0, 3, 0);
        x.members(1, 7, 0);
        rule(0, 0, "r:1;g:2000");
        rule(1, 0, "r:1;g:2000");
        x.grown(0, 0, 1, 10000);
        x.grown(2, 0, 1, 10000);
        int[] parts = {99, 100, 199, 200, 1000};
        for (int n : parts) {
            x.lay(1, n);
            x.made(0, 0, 0, 1, 1000);
        }
        for (int b = 2; b < 7; b++) {
            int s = x.ship(b, 1, 1, 0, 0);
            x.paper(s, 0);
        }
        send(0, 1);
        int other = x.ship(6, 1, 1, 1, 0);
        x.paper(other, 0);
        int[] weights = {1, 2, 2, 3, 11, 1, 1};
        for (long seed = 0; seed < 40; seed++) {
            int[] want = drawn(seed, weights);
            for (int i = 0; i < 7; i++) sheet.due(x.check(7, seed, i), want[i]);
        }
        sheet.of("38: letter n as known NOW");
        x.days(1);
        x.mend(1, 10);
        int[] heavier = {10, 11, 20, 21, 101, 1, 1};
        for (long seed = 40; seed < 50; seed++) {
            int[] want = drawn(seed, heavier);
            for (int i = 0; i < 7; i++) sheet.due(x.check(7, seed, i), want[i]);
        }
    }

    private static void checkWebs() {
        fresh("38: letter n, no other letter, of its BATCH by its WEB, whichever it is");
        for (int web = 0; web < 4; web++) {
            x.members(web, 3 | 4 << web, 0);
            rule(web, 0, "r:1;g:2000");
        }
        x.grown(0, 0, 1, 10000);
        for (int land = 2; land < 6; land++) x.grown(land, land % 2, 1, 10000);
        int[] parts = {500, 100, 200, 400, 700};
        for (int b = 0; b < 5; b++) x.lay(b, parts[b]);
        int mixed = x.made(0, 0, 0, 1, 1000);
        for (int web = 0; web < 4; web++) {
            int s = x.ship(mixed, 1, 1, web, 0);
            x.paper(s, 0);
        }
        sheet.due(x.count(10), 4);
        int[] weights = {14, 13, 11, 8};
        for (long seed = 0; seed < 60; seed++) {
            int[] want = drawn(seed, weights);
            for (int i = 0; i < 4; i++) sheet.due(x.check(4, seed, i), want[i]);
        }
    }

    private static void checkAfterBooking() {
        fresh("38: whatever is booked");
        road("g:2000;d:1000");
        for (int s = 0; s < 5; s++) send(s % 2, 1 + s);
        int[] weights = {1, 1, 1, 1, 1};
        for (int n = 0; n < 3; n++) {
            for (long seed = 0; seed < 20; seed++) for (int i = 0; i < 5; i++) sheet.due(x.check(5, seed, i), drawn(seed, weights)[i]);
            x.mend(0, 20 + n);
            x.mend(1, 20 + n);
            sheet.due(x.book(), 5);
        }
    }

    private static void checkMost() {
        fresh("38: weights of letters at most, of 100 SHIPMENTS");
        x.members(0, 3, 0);
        rule(0, 0, "r:1;g:2000");
        x.grown(2, 0, 10000, 10000);
        x.lay(0, 10000);
        x.made(0, 0, 0, 1, 100);
        for (int s = 0; s < 100; s++) send(1, 1);
        sheet.due(x.letter(1, 0, 0, 'n'), 10_000_000);
        int[] weights = new int[100];
        java.util.Arrays.fill(weights, 100_001);
        int[] want = drawn(77, weights);
        for (int i = 0; i < 100; i++) sheet.due(x.check(100, 77, i), want[i]);
        sheet.due(x.check(101, 77, 0), NONE);
        sheet.due(x.check(100, 77, 100), NONE);
    }

    private static void checkGoingRound() {
        fresh("38: 64 bits, going round; shifted right by 33, without sign");
        road("g:2000");
        for (int s = 0; s < 7; s++) send(0, 1);
        int[] weights = {1, 1, 1, 1, 1, 1, 1};
        long[] seeds = {0, 1, -1, 2, 5, Long.MIN_VALUE, Long.MAX_VALUE, Long.MIN_VALUE + 1, Long.MAX_VALUE - 1, 1L << 32, 1L << 33, -(1L << 33),
            Integer.MAX_VALUE, Integer.MIN_VALUE, 123456789012345678L, -123456789012345678L};
        for (long seed : seeds) {
            int[] want = drawn(seed, weights);
            for (int i = 0; i < 7; i++) sheet.due(x.check(7, seed, i), want[i]);
            for (int n = 1; n < 7; n++) sheet.due(x.check(n, seed, n - 1), want[n - 1]);
        }
    }

    private static void checkAnew() {
        fresh("38: each drawing begins anew, whatever was drawn before");
        road("g:2000");
        for (int s = 0; s < 6; s++) send(s % 2, 1);
        int[] weights = {1, 1, 1, 1, 1, 1};
        for (long seed = 0; seed < 9; seed++) for (int i = 5; i >= 0; i--) sheet.due(x.check(6, seed, i), drawn(seed, weights)[i]);
        sheet.due(x.check(1, 3, 0), drawn(3, weights)[0]);
        x.undo(1);
        int[] fewer = {1, 0, 1, 0, 1, 0};
        for (long seed = 0; seed < 9; seed++) for (int i = 2; i >= 0; i--) sheet.due(x.check(3, seed, i), drawn(seed, fewer)[i]);
        sheet.due(x.check(4, 3, 0), NONE);
        x.paper(4, 0);
        x.paper(2, 2000);
        x.paper(0, 0);
        rule(0, 0, "g:1999");
        int[] two = {1, 0, 0, 0, 1, 0};
        for (long seed = 0; seed < 9; seed++) for (int i = 1; i >= 0; i--) sheet.due(x.check(2, seed, i), drawn(seed, two)[i]);
        sheet.due(x.check(3, 3, 0), NONE);
    }

    private static void checkNow() {
        fresh("38 and 39: STATE 1 as known NOW, however few are drawn");
        road("g:2000");
        x.days(20);
        for (int s = 0; s < 3; s++) send(s % 2, 1);
        sheet.due(x.count(10), 3);
        int[] all = {1, 1, 1};
        for (long seed = 0; seed < 5; seed++) for (int n = 1; n <= 3; n++) sheet.due(x.check(n, seed, n - 1), drawn(seed, all)[n - 1]);
        x.days(20);
        x.undo(0);
        sheet.due(x.state(0, 39), 1);
        sheet.due(x.count(10), 1);
        sheet.due(x.check(1, 5, 0), 1);
        sheet.due(x.check(2, 5, 0), NONE);
        sheet.due(x.state(0, 39), 1);
        sheet.due(x.count(10), 1);
        sheet.due(x.state(0, 39), 1);
        sheet.due(x.check(2, 5, 1), NONE);
        sheet.due(x.state(0, 39), 1);
        sheet.due(x.book(), 2);
        sheet.due(x.line(0, 0), 0);
        sheet.due(x.line(1, 0), 2);
        sheet.due(x.line(1, 1), 1);
    }

    /** 100 SHIPMENTS of HEADINGS by tens, each LINE of its own coins, till there are so many LINES. */
    private static void bookUpTo(int lines) {
        for (int i = 0; i < 100; i++) {
            x.grown(0, i / 10, 10000, 10000);
            x.ship(i, 1 + i, 1, NONE, 0);
        }
        for (int i = 1; i <= 3; i++) {
            for (int h = 0; h < 10; h++) x.tariff(1, h, i);
            sheet.due(x.book(), 100);
        }
        for (int h = 0; h < 9; h++) x.tariff(1, h, 9);
        sheet.due(x.book(), 90);
        for (int s = 90; x.count(5) < lines; s++) {
            x.mend(s, 5000);
            sheet.due(x.book(), 1);
        }
        sheet.due(x.count(5), lines);
    }

    private static void bookNow() {
        fresh("28: 400 LINES at most, of DUTY as known NOW");
        bookUpTo(399);
        x.days(1000);
        x.mend(3, 1);
        x.mend(70, 1);
        sheet.due(x.book(), NONE);
        sheet.due(x.count(5), 399);
        x.mend(3, 10000);
        sheet.due(x.book(), 1);
        sheet.due(x.line(399, 0), 70);
        sheet.due(x.line(399, 2), 1000);
        sheet.due(x.book(), 0);
        x.mend(3, 1);
        sheet.due(x.book(), NONE);
        sheet.due(x.count(5), 400);
    }

    private static void bookApart() {
        fresh("28: each SHIPMENT's DUTY beside what is BOOKED of it");
        bookUpTo(400);
        sheet.due(x.book(), 0);
        x.days(1);
        sheet.due(x.book(), 0);
        x.mend(0, 9999);
        sheet.due(x.book(), NONE);
        sheet.due(x.line(399, 0), 99);
    }

    private static void manyCalls() {
        fresh("an object is used for 512 calls");
        for (int i = 0; i < 100; i++) sheet.due(x.grown(0, 0, 1, 10000), i);
        for (int i = 0; i < 100; i++) sheet.due(x.ship(i, 1, 1, NONE, 0), i);
        for (int i = 0; i < 100; i++) sheet.due(x.mend(i, 1000), true);
        for (int i = 0; i < 100; i++) sheet.due(x.pour(5, i, 100), 100 * (i + 1));
        sheet.due(x.book(), 100);
        for (int i = 0; i < 100; i++) sheet.due(x.duty(i, 0), 100);
        for (int i = 0; i < 10; i++) sheet.due(x.line(99, 1), 100);
        sheet.due(x.count(6), 10);
    }

    private static void countBounds() {
        fresh("39: NONE for others");
        for (int what = 0; what <= 10; what++) sheet.due(x.count(what), 0);
        sheet.due(x.count(-1), NONE);
        sheet.due(x.count(11), NONE);
        for (int n : FAR) sheet.due(x.count(n), NONE);
        sheet.of("39: each of its own");
        x.days(2);
        long[] want = {2, 0, 0, 0, 0, 0, 0, 0, 0, 0, 0};
        counts(want);
        x.members(0, 3, 0);
        rule(0, 0, "g:2000");
        want[1] = 1;
        counts(want);
        x.grown(0, 7, 10000, 10000);
        x.grown(0, 7, 10, 10);
        x.grown(0, 7, 10, 10);
        want[2] = 3;
        counts(want);
        x.lay(0, 1);
        x.lay(0, 1);
        want[3] = 2;
        counts(want);
        send(0, 100);
        send(0, 100);
        send(0, 100);
        x.ship(0, 100, 1, NONE, 0);
        want[4] = 4;
        want[10] = 3;
        counts(want);
        x.book();
        want[5] = 1;
        want[6] = 100;
        counts(want);
        for (int i = 0; i < 5; i++) x.word(0, 1);
        want[7] = 5;
        counts(want);
        x.feed(-1, 1, 0, 0, 256);
        want[8] = 6;
        counts(want);
        x.undo(1);
        want[9] = 1;
        counts(want);
        x.undo(0);
        want[9] = 2;
        want[10] = 0;
        counts(want);
    }

    private static void counts(long[] want) {
        for (int what = 0; what < want.length; what++) sheet.due(x.count(what), want[what]);
    }
}
