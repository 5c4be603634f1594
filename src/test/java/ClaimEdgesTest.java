/** CLAIMS, TOWNS, LUCK and LAKES (part 4 of the terms, promises 23 to 29): each sentence that names a boundary case. */
public final class ClaimEdgesTest {
    private static final int NONE = Check.NONE, UNKNOWN = Check.UNKNOWN, OUTSIDE = Check.OUTSIDE, FULL = Check.FULL;
    private static final int LEFT = 0, IN_VAIN = 1, MET = 2, COST = 3;
    private static final int NEVER = 1000001;
    private static final Check CHECK = new Check("ClaimEdgesTest");

    private static void due(String call, long got, long want) {
        CHECK.due(call, got, want);
    }

    public static void main(String[] args) {
        claimsFull();
        claimBounds();
        hitDays();
        hitBySuch();
        hitByTheFirst();
        hitInTheBookOfNow();
        alone();
        scoreSquares();
        scoreRefusals();
        scores();
        townDays();
        townLeaves();
        townInVain();
        townMeets();
        townCosts();
        townKnowsTheDayAhead();
        townBounds();
        bestOfLines();
        bestIsTheLeast();
        bestOfLikeOnes();
        luckSums();
        luckCut();
        luckBounds();
        lakeLeastYears();
        lakeOrLessOrMore();
        lakeLeastC();
        lakeNone();
        lakeBounds();
        CHECK.finish();
    }

    private static void claimsFull() {
        CHECK.sentence("CLAIMS (12 at most)");
        ToadsBefore x = new ToadsBefore();
        x.shake(5, 0, 1);
        for (int c = 0; c < 12; c++) {
            due("claim", x.claim(0, 0, 0, 1, 5 - c % 2, 5, c), c);
        }
        due("the thirteenth", x.claim(0, 0, 0, 1, 5, 5, 0), FULL);
        due("the thirteenth, q 101", x.claim(0, 0, 0, 1, 5, 5, 101), OUTSIDE);
        due("the thirteenth, PLACE 64", x.claim(0, 64, 0, 1, 5, 5, 101), UNKNOWN);
        due("count(2)", x.count(2), 12);
        for (int c = 0; c < 12; c++) {
            due("score(" + c + ", 2)", x.score(c, 2), 10000 - (100 - c) * (100 - c));
        }
        due("score(12, 2)", x.score(12, 2), UNKNOWN);
    }

    private static void claimBounds() {
        CHECK.sentence("told on a DAY t .. from DAY a to b (t less than a), with odds q of a hundred. UNKNOWN, OUTSIDE"
                + " (t, a, b; m; z; q 0 .. 100)");
        ToadsBefore x = new ToadsBefore();
        due("the least of all", x.claim(0, 0, 0, 1, 1, 1, 0), 0);
        due("the most of all", x.claim(398, 63, 7, 9, 399, 399, 100), 1);
        due("all DAYS", x.claim(0, 0, 0, 1, 1, 399, 0), 2);
        due("t -1", x.claim(-1, 0, 0, 1, 1, 1, 0), OUTSIDE);
        due("t -1, a 0", x.claim(-1, 0, 0, 1, 0, 1, 0), OUTSIDE);
        due("t 400", x.claim(400, 0, 0, 1, 401, 401, 0), OUTSIDE);
        due("t is a", x.claim(5, 0, 0, 1, 5, 9, 0), OUTSIDE);
        due("t is a and 1", x.claim(6, 0, 0, 1, 5, 9, 0), OUTSIDE);
        due("b is a less 1", x.claim(5, 0, 0, 1, 7, 6, 0), OUTSIDE);
        due("a 400", x.claim(5, 0, 0, 1, 400, 400, 0), OUTSIDE);
        due("b 400", x.claim(5, 0, 0, 1, 399, 400, 0), OUTSIDE);
        due("m -1", x.claim(0, 0, -1, 1, 1, 1, 0), OUTSIDE);
        due("m 8", x.claim(0, 0, 8, 1, 1, 1, 0), OUTSIDE);
        due("z 0", x.claim(0, 0, 0, 0, 1, 1, 0), OUTSIDE);
        due("z 10", x.claim(0, 0, 0, 10, 1, 1, 0), OUTSIDE);
        due("q -1", x.claim(0, 0, 0, 1, 1, 1, -1), OUTSIDE);
        due("q 101", x.claim(0, 0, 0, 1, 1, 1, 101), OUTSIDE);
        due("p -1", x.claim(0, -1, 0, 1, 1, 1, 0), UNKNOWN);
        due("p 64, all else wrong", x.claim(5, 64, 8, 0, 5, 4, 101), UNKNOWN);
        due("count(2)", x.count(2), 3);
        due("of a DAY ahead of THE DAY", x.shake(300, 1, 1), 0);
        due("claim", x.claim(0, 0, 0, 1, 1, 1, 0), 3);
    }

    private static int hit(int m, int z, int a, int b, int... shake) {
        ToadsBefore x = new ToadsBefore();
        x.claim(0, 27, m, z, a, b, 50);
        x.shake(shake[0], shake[1], shake[2]);
        return x.score(0, 0);
    }

    private static void hitDays() {
        CHECK.sentence("of a SHAKE .. from DAY a to b");
        due("on the DAY ahead of a", hit(0, 1, 10, 20, 9, 27, 1), NONE);
        due("on DAY a", hit(0, 1, 10, 20, 10, 27, 1), 0);
        due("on DAY b", hit(0, 1, 10, 20, 20, 27, 1), 0);
        due("on the DAY behind b", hit(0, 1, 10, 20, 21, 27, 1), NONE);
        due("a is b", hit(0, 1, 10, 10, 10, 27, 1), 0);
        due("on the last DAY", hit(0, 1, 399, 399, 399, 27, 1), 0);
    }

    private static void hitBySuch() {
        CHECK.sentence("of a SHAKE of SIZE z or more, m or less FAR from p");
        due("SIZE z", hit(0, 4, 10, 20, 15, 27, 4), 0);
        due("SIZE z less 1", hit(0, 4, 10, 20, 15, 27, 3), NONE);
        due("SIZE 9", hit(0, 4, 10, 20, 15, 27, 9), 0);
        due("1 FAR, m 0", hit(0, 1, 10, 20, 15, 28, 1), NONE);
        due("1 FAR, m 1", hit(1, 1, 10, 20, 15, 28, 1), 0);
        due("2 FAR, m 1", hit(1, 1, 10, 20, 15, 45, 1), NONE);
        due("2 FAR, m 2", hit(2, 1, 10, 20, 15, 45, 1), 0);
        due("4 FAR, m 3", hit(3, 1, 10, 20, 15, 63, 1), NONE);
        due("4 FAR, m 4", hit(4, 1, 10, 20, 15, 63, 1), 0);
    }

    private static void hitByTheFirst() {
        CHECK.sentence("It is HIT by the first such SHAKE of THE BOOK");
        ToadsBefore x = new ToadsBefore();
        x.claim(9, 27, 1, 3, 10, 20, 50);
        due("by none", x.score(0, 0), NONE);
        x.shake(9, 27, 9);
        x.shake(15, 27, 2);
        x.shake(15, 29, 9);
        due("by none such", x.score(0, 0), NONE);
        x.shake(15, 28, 3);
        x.shake(15, 27, 9);
        x.shake(16, 27, 9);
        due("by the first of a DAY", x.score(0, 0), 3);
        x.claim(15, 27, 1, 3, 16, 20, 50);
        due("by one of a later DAY", x.score(1, 0), 5);
    }

    private static void hitInTheBookOfNow() {
        CHECK.sentence("the first such SHAKE of THE BOOK");
        ToadsBefore x = Check.land("rate 0;");
        x.keep(0);
        x.claim(9, 27, 1, 1, 10, 20, 100);
        x.shake(15, 27, 1);
        due("score(0, 0)", x.score(0, 0), 0);
        due("score(0, 2)", x.score(0, 2), 10000);
        x.goBack(0);
        due("score(0, 0) behind goBack", x.score(0, 0), NONE);
        due("score(0, 2) behind goBack", x.score(0, 2), -10000);
    }

    private static void alone() {
        CHECK.sentence("ALONE are ODDS (t, p, m, z, a, b) / 10000");
        ToadsBefore x = Check.land("rate 9;");
        x.claim(0, 0, 7, 1, 1, 1, 0);
        due("9000 / 10000", x.score(0, 1), 0);
        Check.tell(x, "rate 10;");
        due("10000 / 10000", x.score(0, 1), 1);
        Check.tell(x, "rate 999;");
        due("999000 / 10000", x.score(0, 1), 99);
        x.claim(0, 0, 7, 1, 1, 2, 0);
        due("999999 / 10000", x.score(1, 1), 99);
        x.claim(0, 0, 7, 1, 1, 3, 0);
        due("a MILLION / 10000", x.score(2, 1), 100);
        Check.tell(x, "rate 0;after 100;days 3;near 0;");
        x.claim(10, 27, 0, 1, 11, 11, 0);
        x.claim(9, 27, 0, 1, 11, 11, 0);
        x.shake(10, 27, 4);
        due("by a SHAKE of DAY t", x.score(3, 1), 40);
        due("not by one behind t", x.score(4, 1), 0);
    }

    private static void scoreSquares() {
        CHECK.sentence("SCORE: with H 100, if it is HIT, else 0: (ALONE less H) squared less (q less H) squared");
        int[] odds = {0, 1, 50, 99, 100};
        for (int q : odds) {
            ToadsBefore x = Check.land("rate 0;");
            x.claim(0, 27, 0, 1, 1, 1, q);
            due("ALONE 0, H 0, q " + q, x.score(0, 2), -q * q);
            x.shake(1, 27, 1);
            due("ALONE 0, H 100, q " + q, x.score(0, 2), 10000 - (100 - q) * (100 - q));
            ToadsBefore y = Check.land("rate 500;");
            y.claim(0, 27, 7, 1, 1, 1, q);
            due("ALONE 50, H 0, q " + q, y.score(0, 2), 2500 - q * q);
            y.shake(1, 0, 1);
            due("ALONE 50, H 100, q " + q, y.score(0, 2), 2500 - (100 - q) * (100 - q));
            ToadsBefore z = Check.land("rate 999;");
            z.claim(0, 27, 7, 1, 1, 399, q);
            due("ALONE 100, H 0, q " + q, z.score(0, 2), 10000 - q * q);
            z.shake(399, 0, 1);
            due("ALONE 100, H 100, q " + q, z.score(0, 2), -(100 - q) * (100 - q));
        }
    }

    private static void scoreRefusals() {
        CHECK.sentence("Of a CLAIM: what = 0 the SHAKE by which it is HIT (NONE), 1 ALONE, 2 SCORE. UNKNOWN, OUTSIDE");
        ToadsBefore x = new ToadsBefore();
        due("score(0, 0) of none", x.score(0, 0), UNKNOWN);
        x.claim(0, 0, 0, 1, 1, 1, 0);
        due("score(0, 0)", x.score(0, 0), NONE);
        due("score(0, -1)", x.score(0, -1), OUTSIDE);
        due("score(0, 3)", x.score(0, 3), OUTSIDE);
        due("score(1, 0)", x.score(1, 0), UNKNOWN);
        due("score(-1, 0)", x.score(-1, 0), UNKNOWN);
        due("score(1, 3)", x.score(1, 3), UNKNOWN);
    }

    private static void scores() {
        CHECK.sentence("SCORES of all CLAIMS together");
        ToadsBefore x = Check.land("rate 0;");
        due("of none", x.scores(), 0);
        int sum = 0;
        for (int c = 0; c < 12; c++) {
            x.claim(0, 27, 0, 1, 1 + c % 2, 1 + c % 2, 100 - c);
            sum -= (100 - c) * (100 - c);
            due("of " + (c + 1), x.scores(), sum);
        }
        x.shake(1, 27, 1);
        for (int c = 0; c < 12; c += 2) {
            sum += (100 - c) * (100 - c) + 10000 - c * c;
        }
        due("with some HIT", x.scores(), sum);
        ToadsBefore y = Check.land("rate 0;");
        for (int c = 0; c < 12; c++) {
            y.claim(0, 27, 0, 1, 1, 1, 100);
        }
        due("the least", y.scores(), -120000);
        y.shake(1, 27, 1);
        due("the most", y.scores(), 120000);
    }

    private static int town(ToadsBefore x, int line, int a, int b, int what) {
        return x.town(27, 1, 7, 100, line, a, b, what);
    }

    private static void townDays() {
        CHECK.sentence("From DAY a to b (a 1 or more)");
        ToadsBefore x = new ToadsBefore();
        due("the first DAY", town(x, 0, 1, 1, LEFT), 1);
        due("the last", town(x, 0, 399, 399, LEFT), 1);
        due("all", town(x, 0, 1, 399, LEFT), 399);
        due("a 0", town(x, 0, 0, 1, LEFT), OUTSIDE);
        x.shake(5, 27, 1);
        due("SHAKES met from 1 to 4", town(x, NEVER, 1, 4, MET), 0);
        due("from 1 to 5", town(x, NEVER, 1, 5, MET), 1);
        due("from 5 to 5", town(x, NEVER, 5, 5, MET), 1);
        due("from 5 to 399", town(x, NEVER, 5, 399, MET), 1);
        due("from 6 to 399", town(x, NEVER, 6, 399, MET), 0);
        ToadsBefore y = new ToadsBefore();
        y.shake(0, 27, 1);
        due("a SHAKE of DAY 0 is met by none", town(y, NEVER, 1, 399, MET), 0);
        y.shake(399, 27, 1);
        due("one of DAY 399", town(y, NEVER, 1, 399, MET), 1);
    }

    private static void townLeaves() {
        CHECK.sentence("It LEAVES on a DAY, if ODDS (DAY less 1, p, 1, z, DAY, DAY) are LINE or more");
        ToadsBefore x = new ToadsBefore();
        // 20 times 1000 times 9 / 64.
        due("ODDS as LINE", town(x, 2812, 1, 10, LEFT), 10);
        due("ODDS below LINE", town(x, 2813, 1, 10, LEFT), 0);
        Check.tell(x, "rate 0;after 999;days 2;near 1;");
        x.shake(5, 27, 9);
        due("LINE 0, ODDS 0", town(x, 0, 1, 10, LEFT), 10);
        due("LINE 1", town(x, 1, 1, 10, LEFT), 2);
        due("LINE a MILLION, ODDS as much", town(x, 1000000, 1, 10, LEFT), 2);
        due("LINE a MILLION and one", town(x, NEVER, 1, 10, LEFT), 0);
        CHECK.sentence("a SHAKE of SIZE z or more at most one FAR");
        int[] places = {27, 18, 20, 36, 28, 29, 45, 9, 0};
        int[] share = {9, 4, 4, 4, 6, 3, 1, 1, 0};
        for (int i = 0; i < places.length; i++) {
            // The ODDS at each PLACE: of a thousand times a thousand so many ninths.
            int line = 1000000 * share[i] / 9;
            due("at " + places[i] + ", LINE " + line, x.town(places[i], 1, 1, 1, line, 6, 6, LEFT), 1);
            due("at " + places[i] + ", above", x.town(places[i], 1, 1, 1, line + 1, 6, 6, LEFT), 0);
        }
        Check.tell(x, "rate 0;grow 50;after 999;near 1;");
        due("of SIZE 2", x.town(27, 2, 1, 1, 500000, 6, 6, LEFT), 1);
        due("of SIZE 2", x.town(27, 2, 1, 1, 500001, 6, 6, LEFT), 0);
    }

    private static void townInVain() {
        CHECK.sentence("those left in vain (no such SHAKE on it)");
        ToadsBefore x = new ToadsBefore();
        x.shake(5, 27, 3);
        x.shake(6, 29, 9);
        x.shake(7, 28, 1);
        x.shake(7, 28, 1);
        due("of DAYS 1 to 10 for SIZE 1: 5, 7 are not", town(x, 0, 1, 10, IN_VAIN), 8);
        due("DAYS left", town(x, 0, 1, 10, LEFT), 10);
        due("for SIZE 3: 5 is not", x.town(27, 3, 7, 100, 0, 1, 10, IN_VAIN), 9);
        due("for SIZE 4", x.town(27, 4, 7, 100, 0, 1, 10, IN_VAIN), 10);
        due("who never leaves", town(x, NEVER, 1, 10, IN_VAIN), 0);
        due("on one of them", town(x, 0, 7, 7, IN_VAIN), 0);
        due("on DAY 6: 2 FAR", town(x, 0, 6, 6, IN_VAIN), 1);
    }

    private static void townMeets() {
        CHECK.sentence("SHAKES that were met");
        ToadsBefore x = Check.land("rate 0;after 999;days 1;near 0;");
        x.shake(5, 27, 3);
        x.shake(5, 28, 3);
        x.shake(5, 29, 3);
        x.shake(6, 27, 3);
        x.shake(8, 26, 2);
        due("who never leaves", town(x, NEVER, 1, 10, MET), 4);
        due("who leaves each DAY", town(x, 0, 1, 10, MET), 0);
        due("who leaves on DAY 6", town(x, 1, 1, 10, MET), 3);
        due("SIZE 3 or more", x.town(27, 3, 7, 100, NEVER, 1, 10, MET), 3);
        due("SIZE 4 or more", x.town(27, 4, 7, 100, NEVER, 1, 10, MET), 0);
        ToadsBefore y = new ToadsBefore();
        y.shake(5, 8, 9);
        due("across the border", y.town(7, 1, 1, 1, NEVER, 1, 10, MET), 0);
        due("at the PLACE", y.town(8, 1, 1, 1, NEVER, 1, 10, MET), 1);
        due("1 FAR", y.town(17, 1, 1, 1, NEVER, 1, 10, MET), 1);
        due("2 FAR", y.town(24, 1, 1, 1, NEVER, 1, 10, MET), 0);
    }

    private static void townCosts() {
        CHECK.sentence("LEAVING costs l a DAY (1 .. 999), a SHAKE costs h (1 .. 9999), if nobody left");
        ToadsBefore x = new ToadsBefore();
        for (int k = 0; k < 60; k++) {
            x.shake(5, 27, 9);
        }
        due("60 SHAKES, h 9999", x.town(27, 9, 1, 9999, NEVER, 1, 399, COST), 599940);
        due("60 SHAKES, h 1", x.town(27, 9, 999, 1, NEVER, 1, 399, COST), 60);
        due("399 DAYS, l 999", x.town(27, 9, 999, 9999, 0, 1, 399, COST), 398601);
        due("399 DAYS, l 1", x.town(27, 9, 1, 9999, 0, 1, 399, COST), 399);
        due("one DAY, and nothing", x.town(27, 9, 999, 9999, NEVER, 4, 4, COST), 0);
        Check.tell(x, "rate 0;after 999;days 3;near 1;");
        due("three DAYS left behind it, and the SHAKES", town(x, 1, 1, 10, COST), 3 * 7 + 60 * 100);
    }

    private static void townKnowsTheDayAhead() {
        CHECK.sentence("ODDS (DAY less 1, p, 1, z, DAY, DAY)");
        ToadsBefore x = Check.land("rate 0;after 999;days 30;near 1;");
        x.shake(5, 27, 9);
        due("on its own DAY nothing is known", town(x, 1, 5, 5, LEFT), 0);
        due("on the next it is", town(x, 1, 6, 6, LEFT), 1);
        x.shake(6, 27, 9);
        due("by each of the DAYS ahead", town(x, 1, 1, 399, LEFT), 31);
        due("with 30 DAYS ahead", town(x, 1, 36, 36, LEFT), 1);
        due("with 31", town(x, 1, 37, 37, LEFT), 0);
        ToadsBefore y = Check.land("rate 0;after 999;days 1;near 1;");
        y.shake(0, 27, 9);
        due("by DAY 0 on DAY 1", town(y, 1, 1, 1, LEFT), 1);
    }

    private static void townBounds() {
        CHECK.sentence("A TOWN by a LINE (0 .. 1000001). UNKNOWN, OUTSIDE (z, l, h, LINE, a 1 .. 399, b, what)");
        ToadsBefore x = new ToadsBefore();
        due("the least of all", x.town(0, 1, 1, 1, 0, 1, 1, 0), 1);
        due("the most of all", x.town(63, 9, 999, 9999, 1000001, 399, 399, 3), 0);
        due("LINE -1", x.town(0, 1, 1, 1, -1, 1, 1, 0), OUTSIDE);
        due("LINE 1000002", x.town(0, 1, 1, 1, 1000002, 1, 1, 0), OUTSIDE);
        due("z 0", x.town(0, 0, 1, 1, 0, 1, 1, 0), OUTSIDE);
        due("z 10", x.town(0, 10, 1, 1, 0, 1, 1, 0), OUTSIDE);
        due("l 0", x.town(0, 1, 0, 1, 0, 1, 1, 0), OUTSIDE);
        due("l 1000", x.town(0, 1, 1000, 1, 0, 1, 1, 0), OUTSIDE);
        due("h 0", x.town(0, 1, 1, 0, 0, 1, 1, 0), OUTSIDE);
        due("h 10000", x.town(0, 1, 1, 10000, 0, 1, 1, 0), OUTSIDE);
        due("a 0", x.town(0, 1, 1, 1, 0, 0, 1, 0), OUTSIDE);
        due("a 400", x.town(0, 1, 1, 1, 0, 400, 400, 0), OUTSIDE);
        due("b is a less 1", x.town(0, 1, 1, 1, 0, 9, 8, 0), OUTSIDE);
        due("b is a", x.town(0, 1, 1, 1, 0, 9, 9, 0), 1);
        due("b 400", x.town(0, 1, 1, 1, 0, 1, 400, 0), OUTSIDE);
        due("what -1", x.town(0, 1, 1, 1, 0, 1, 1, -1), OUTSIDE);
        due("what 4", x.town(0, 1, 1, 1, 0, 1, 1, 4), OUTSIDE);
        due("p -1", x.town(-1, 1, 1, 1, 0, 1, 1, 0), UNKNOWN);
        due("p 64, all else wrong", x.town(64, 0, 0, 0, -1, 0, 0, 4), UNKNOWN);
        CHECK.sentence("BEST LINE. UNKNOWN, OUTSIDE");
        due("the least of all", x.bestLine(0, 1, 1, 1, 1, 1), 2000);
        due("the most of all", x.bestLine(63, 9, 999, 9999, 399, 399), 1000);
        due("z 0", x.bestLine(0, 0, 1, 1, 1, 1), OUTSIDE);
        due("z 10", x.bestLine(0, 10, 1, 1, 1, 1), OUTSIDE);
        due("l 0", x.bestLine(0, 1, 0, 1, 1, 1), OUTSIDE);
        due("l 1000", x.bestLine(0, 1, 1000, 1, 1, 1), OUTSIDE);
        due("h 0", x.bestLine(0, 1, 1, 0, 1, 1), OUTSIDE);
        due("h 10000", x.bestLine(0, 1, 1, 10000, 1, 1), OUTSIDE);
        due("a 0", x.bestLine(0, 1, 1, 1, 0, 1), OUTSIDE);
        due("a 400", x.bestLine(0, 1, 1, 1, 400, 400), OUTSIDE);
        due("b is a less 1", x.bestLine(0, 1, 1, 1, 9, 8), OUTSIDE);
        due("b 400", x.bestLine(0, 1, 1, 1, 1, 400), OUTSIDE);
        due("p 64, all else wrong", x.bestLine(64, 0, 0, 0, 0, 0), UNKNOWN);
        due("p -1", x.bestLine(-1, 1, 1, 1, 1, 1), UNKNOWN);
    }

    /** ODDS by MAIN alone at all DAYS alike: the least LINE above them is best, if no SHAKE comes. */
    private static int bestAbove(int rate) {
        return Check.land("rate " + rate + ";").bestLine(0, 1, 1, 1, 1, 399);
    }

    private static void bestOfLines() {
        CHECK.sentence("BEST LINE: of 0, 1000, 2000, .. 50000, and a MILLION and one");
        // In a corner: R times 1000 times 4 / 64, that is 62.5 times R.
        due("ODDS 0", bestAbove(0), 1000);
        due("ODDS 62", bestAbove(1), 1000);
        due("ODDS 1000", bestAbove(16), 2000);
        due("ODDS 1937", bestAbove(31), 2000);
        due("ODDS 2000", bestAbove(32), 3000);
        due("ODDS 48937", bestAbove(783), 49000);
        due("ODDS 49000", bestAbove(784), 50000);
        due("ODDS 49937", bestAbove(799), 50000);
        due("ODDS 50000", bestAbove(800), NEVER);
        due("ODDS 62437", bestAbove(999), NEVER);
        ToadsBefore x = Check.land("rate 0;after 999;days 1;near 1;");
        x.shake(5, 27, 9);
        due("ODDS of a MILLION, and still in vain", x.bestLine(27, 1, 1, 1, 6, 6), NEVER);
        due("as a TOWN by that LINE never leaves", x.town(27, 1, 1, 1, NEVER, 6, 6, LEFT), 0);
        x.shake(6, 27, 9);
        due("ODDS of a MILLION, and not in vain", x.bestLine(27, 1, 1, 2, 6, 6), 0);
    }

    /** By each LINE in turn, a TOWN of its own: the first with the least cost. */
    private static void bestBesideAll(ToadsBefore x, int p, int z, int l, int h, int a, int b) {
        int best = 0;
        int least = x.town(p, z, l, h, 0, a, b, COST);
        for (int step = 1; step <= 51; step++) {
            int line = step == 51 ? NEVER : step * 1000;
            int cost = x.town(p, z, l, h, line, a, b, COST);
            if (cost < least) {
                least = cost;
                best = line;
            }
        }
        due("bestLine(" + p + ", " + z + ", " + l + ", " + h + ", " + a + ", " + b + ")", x.bestLine(p, z, l, h, a, b),
                best);
    }

    private static void bestIsTheLeast() {
        CHECK.sentence("that with the least cost");
        ToadsBefore x = Check.land("rate 3;after 9;days 30;near 2;");
        int[][] shakes = {{10, 27, 3}, {12, 28, 2}, {13, 35, 4}, {20, 26, 1}, {21, 27, 5}, {22, 20, 1}, {23, 28, 2},
            {40, 36, 9}, {41, 27, 1}, {44, 18, 3}, {60, 27, 2}};
        for (int[] shake : shakes) {
            x.shake(shake[0], shake[1], shake[2]);
        }
        int[] harm = {1, 5, 11, 30, 60, 200, 999};
        for (int h : harm) {
            bestBesideAll(x, 27, 1, 10, h, 1, 70);
        }
        due("it lies between", x.bestLine(27, 1, 10, 30, 1, 70), bestBetween(x));
        ToadsBefore y = Check.land("rate 3;after 9;days 30;near 2;");
        for (int[] shake : shakes) {
            y.shake(shake[0], shake[1], shake[2]);
        }
        bestBesideAll(y, 27, 2, 10, 50, 1, 70);
        bestBesideAll(y, 28, 1, 3, 100, 9, 45);
        bestBesideAll(y, 36, 1, 1, 9999, 1, 399);
        bestBesideAll(y, 63, 1, 999, 9999, 1, 399);
        bestBesideAll(y, 27, 1, 999, 1, 1, 399);
        due("a fresh object answers the same", fresh(shakes).bestLine(27, 1, 10, 30, 1, 70), bestBetween(x));
    }

    private static ToadsBefore fresh(int[][] shakes) {
        ToadsBefore x = Check.land("rate 3;after 9;days 30;near 2;");
        for (int[] shake : shakes) {
            x.shake(shake[0], shake[1], shake[2]);
        }
        return x;
    }

    private static int bestBetween(ToadsBefore x) {
        int best = x.bestLine(27, 1, 10, 30, 1, 70);
        CHECK.holds("a LINE between the ends: " + best, best > 1000 && best < 50000);
        return best;
    }

    private static void bestOfLikeOnes() {
        CHECK.sentence("(the least such)");
        ToadsBefore x = Check.land("rate 0;after 100;days 1;near 0;");
        due("all from 1000 on cost nothing", x.bestLine(27, 1, 5, 100, 1, 399), 1000);
        x.shake(5, 27, 1);
        due("leaving costs as much as the SHAKE", x.bestLine(27, 1, 5, 5, 5, 5), 0);
        due("leaving costs more", x.bestLine(27, 1, 5, 4, 5, 5), 1000);
        due("leaving costs less", x.bestLine(27, 1, 5, 6, 5, 5), 0);
        x.shake(6, 27, 1);
        // On DAY 6 the ODDS are 100000, on the DAYS ahead of it 0.
        due("all but the last leave on DAY 6", x.bestLine(27, 1, 5, 6, 6, 6), 0);
        due("all but the first and the last leave on DAY 6 alone", x.bestLine(27, 1, 5, 6, 4, 6), 1000);
        due("both DAYS in vain", x.bestLine(27, 2, 5, 6, 8, 9), 1000);
    }

    private static void luckSums() {
        CHECK.sentence("LUCK, of a MILLION, that of n committees (1 .. 200), each right by chance p of a thousand, k or"
                + " more are: the sum from k on");
        ToadsBefore x = new ToadsBefore();
        int[] four = {1000000, 937500, 687500, 312500, 62500};
        for (int k = 0; k <= 4; k++) {
            due("luck(4, 500, " + k + ")", x.luck(4, 500, k), four[k]);
        }
        due("luck(1, 300, 0)", x.luck(1, 300, 0), 1000000);
        due("luck(1, 300, 1)", x.luck(1, 300, 1), 300000);
        int[] counts = {1, 2, 199, 200};
        for (int n : counts) {
            due("p 0, k 0, n " + n, x.luck(n, 0, 0), 1000000);
            due("p 0, k 1, n " + n, x.luck(n, 0, 1), 0);
            due("p 1000, k n, n " + n, x.luck(n, 1000, n), 1000000);
            due("p 1000, k 0, n " + n, x.luck(n, 1000, 0), 1000000);
        }
    }

    private static void luckCut() {
        CHECK.sentence("DIST(j) becomes (DIST(j) times (1000 less p) and DIST(j - 1) times p) / 1000 (cut)");
        ToadsBefore x = new ToadsBefore();
        // 999000, 1000; 998001, 1998, 1; 997002, 2994, 2, 0.
        int[] two = {1000000, 1999, 1};
        int[] three = {999998, 2996, 2, 0};
        for (int k = 0; k <= 2; k++) {
            due("luck(2, 1, " + k + ")", x.luck(2, 1, k), two[k]);
        }
        for (int k = 0; k <= 3; k++) {
            due("luck(3, 1, " + k + ")", x.luck(3, 1, k), three[k]);
        }
        // 1000, 999000; 1, 1998, 998001; 0, 2, 2994, 997002.
        int[] other = {999998, 999998, 999996, 997002};
        for (int k = 0; k <= 3; k++) {
            due("luck(3, 999, " + k + ")", x.luck(3, 999, k), other[k]);
        }
        // Halves of a MILLION, cut: the twentieth is none.
        due("luck(19, 500, 19)", x.luck(19, 500, 19), 1);
        due("luck(20, 500, 20)", x.luck(20, 500, 20), 0);
        due("luck(200, 500, 200)", x.luck(200, 500, 200), 0);
    }

    private static void luckBounds() {
        CHECK.sentence("LUCK. OUTSIDE (k 0 .. n, p 0 .. 1000)");
        ToadsBefore x = new ToadsBefore();
        due("n 0", x.luck(0, 500, 0), OUTSIDE);
        due("n 201", x.luck(201, 500, 0), OUTSIDE);
        due("p -1", x.luck(1, -1, 0), OUTSIDE);
        due("p 1001", x.luck(1, 1001, 0), OUTSIDE);
        due("k -1", x.luck(1, 500, -1), OUTSIDE);
        due("k n and 1", x.luck(1, 500, 2), OUTSIDE);
        due("k n", x.luck(1, 500, 1), 500000);
        due("n 200, k 201", x.luck(200, 500, 201), OUTSIDE);
    }

    private static void lakes(ToadsBefore x, int r, int t, int most, int least, int n, int c) {
        String call = "lake(" + r + ", " + t + ", " + most + ", " + least + ", ";
        due(call + "0)", x.lake(r, t, most, least, 0), n);
        due(call + "1)", x.lake(r, t, most, least, 1), c);
    }

    private static void lakeLeastYears() {
        CHECK.sentence("how many years n (1 .. 60) to count .. the least n for which there is a c");
        ToadsBefore x = new ToadsBefore();
        lakes(x, 0, 1000, 0, 1000000, 1, 1);
        // All of n years: 500000, 250000, 125000, .. each half of the last; t is always right.
        lakes(x, 500, 1000, 500000, 1000000, 1, 1);
        lakes(x, 500, 1000, 499999, 1000000, 2, 2);
        lakes(x, 500, 1000, 249999, 1000000, 3, 3);
        lakes(x, 500, 1000, 1, 1000000, 19, 19);
        lakes(x, 500, 1000, 0, 1000000, 20, 20);
        // The sixtieth year is the last.
        int last = x.luck(60, 900, 60);
        lakes(x, 900, 1000, last, 1000000, 60, 60);
        lakes(x, 900, 1000, last - 1, 1000000, NONE, NONE);
        lakes(x, 900, 1000, x.luck(59, 900, 59), 1000000, 59, 59);
        lakes(x, 100, 500, 50000, 900000, 12, 4);
    }

    private static void lakeOrLessOrMore() {
        CHECK.sentence("LUCK (n, r, c) is x or less and LUCK (n, t, c) is y or more");
        ToadsBefore x = new ToadsBefore();
        lakes(x, 300, 800, 300000, 800000, 1, 1);
        lakes(x, 300, 800, 300000, 800001, 3, 2);
        // One of two: 510000 and 960000; both: 90000 and 640000.
        lakes(x, 300, 800, 299999, 640000, 2, 2);
        lakes(x, 300, 800, 90000, 640000, 2, 2);
        lakes(x, 300, 800, 89999, 640000, 4, 3);
        lakes(x, 300, 800, 90000, 640001, 4, 3);
        due("LUCK (4, 300, 3)", x.luck(4, 300, 3), 83700);
        due("LUCK (4, 800, 3)", x.luck(4, 800, 3), 819200);
        due("LUCK (3, 300, 3)", x.luck(3, 300, 3), 27000);
        due("LUCK (3, 800, 3)", x.luck(3, 800, 3), 512000);
        lakes(x, 300, 800, 89999, 512000, 3, 3);
        lakes(x, 300, 800, 89999, 512001, 4, 3);
    }

    private static void lakeLeastC() {
        CHECK.sentence("(the least c)");
        ToadsBefore x = new ToadsBefore();
        lakes(x, 500, 500, 1000000, 0, 1, 0);
        lakes(x, 500, 500, 1000000, 1000000, 1, 0);
        lakes(x, 500, 500, 999999, 0, 1, 1);
        lakes(x, 500, 500, 500000, 500000, 1, 1);
        // By what is cut off LUCK (3, 1, 0) is 999998: then c may be 0.
        lakes(x, 1, 0, 999999, 1000000, 3, 0);
        lakes(x, 1, 0, 999998, 1000000, 3, 0);
        due("LUCK (2, 1, 0)", x.luck(2, 1, 0), 1000000);
        due("LUCK (3, 1, 0)", x.luck(3, 1, 0), 999998);
    }

    private static void lakeNone() {
        CHECK.sentence("LAKE: what = 0 n, 1 c; NONE");
        ToadsBefore x = new ToadsBefore();
        lakes(x, 1000, 0, 0, 0, NONE, NONE);
        lakes(x, 1000, 1000, 999999, 1, NONE, NONE);
        lakes(x, 500, 500, 100, 900000, NONE, NONE);
        lakes(x, 0, 1000, 0, 1000000, 1, 1);
        lakes(x, 1000, 0, 0, 0, NONE, NONE);
    }

    private static void lakeBounds() {
        CHECK.sentence("OUTSIDE (r, t 0 .. 1000, x, y 0 .. MILLION)");
        ToadsBefore x = new ToadsBefore();
        lakes(x, 0, 0, 0, 0, 1, 1);
        lakes(x, 1000, 1000, 1000000, 1000000, 1, 0);
        due("r -1", x.lake(-1, 0, 0, 0, 0), OUTSIDE);
        due("r 1001", x.lake(1001, 0, 0, 0, 0), OUTSIDE);
        due("t -1", x.lake(0, -1, 0, 0, 0), OUTSIDE);
        due("t 1001", x.lake(0, 1001, 0, 0, 0), OUTSIDE);
        due("x -1", x.lake(0, 0, -1, 0, 0), OUTSIDE);
        due("x 1000001", x.lake(0, 0, 1000001, 0, 0), OUTSIDE);
        due("y -1", x.lake(0, 0, 0, -1, 0), OUTSIDE);
        due("y 1000001", x.lake(0, 0, 0, 1000001, 0), OUTSIDE);
        due("what -1", x.lake(0, 0, 0, 0, -1), OUTSIDE);
        due("what 2", x.lake(0, 0, 0, 0, 2), OUTSIDE);
    }
}
