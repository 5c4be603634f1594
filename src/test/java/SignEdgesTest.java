/** Part 3 of the terms, promises 14 to 22: each sentence that names a boundary case. */
public final class SignEdgesTest {
    private static final int NONE = Check.NONE, UNKNOWN = Check.UNKNOWN, OUTSIDE = Check.OUTSIDE, NOT = Check.NOT,
        FULL = Check.FULL;
    private static final Check CHECK = new Check("SignEdgesTest");

    private static void due(String call, long got, long want) {
        CHECK.due(call, got, want);
    }

    public static void main(String[] args) {
        kinds();
        notCountedAtFirst();
        watchTells();
        watchBounds();
        rainTells();
        signsFull();
        signWritten();
        omenTells();
        moon();
        noMoon();
        rainAhead();
        ofBothTheMoon();
        even();
        evenByTheLawOfNow();
        oddDays();
        rates();
        rateRefusals();
        windowDays();
        windowFarAndKinds();
        windowHoweverWritten();
        windowBounds();
        chanceProduct();
        chanceCounted();
        chanceBounds();
        tableLastOnes();
        tableDaysBehind();
        tableOfTheBookOfNow();
        tableFarAndSize();
        tableOdd();
        worth();
        tableBounds();
        storyDays();
        storyCounted();
        storyRefusals();
        CHECK.finish();
    }

    private static void write(ToadsBefore x, int k, int place, int... days) {
        for (int d : days) {
            x.sign(k, d, place, d);
        }
    }

    private static void kinds() {
        CHECK.sentence("KINDS of SIGNS 0 to 7");
        ToadsBefore x = new ToadsBefore();
        due("watch(0, ..)", x.watch(0, 1, 2, 3), 0);
        due("watch(7, ..)", x.watch(7, 1, 2, 3), 0);
        due("sign(0, ..)", x.sign(0, 2, 1, 2), 0);
        due("sign(7, ..)", x.sign(7, 2, 1, 2), 1);
        due("omen(1, 0)", x.omen(1, 0), 7);
        int[] none = {-1, 8, Check.TINY, Check.HUGE};
        for (int k : none) {
            due("watch(" + k + ")", x.watch(k, 1, 2, 3), UNKNOWN);
            due("sign(" + k + ")", x.sign(k, 2, 1, 2), UNKNOWN);
            due("rate(" + k + ")", x.rate(k, 0), UNKNOWN);
            due("table(" + k + ")", x.table(k, 1, 0, 1, 0), UNKNOWN);
            due("story(" + k + ", 0)", x.story(k, 0, 0), UNKNOWN);
            due("story(0, " + k + ")", x.story(0, k, 0), UNKNOWN);
        }
    }

    private static void notCountedAtFirst() {
        CHECK.sentence("COUNTED from a DAY to a DAY (or not at all, at first)");
        ToadsBefore x = new ToadsBefore();
        write(x, 0, 0, 0);
        due("omen(0, 5)", x.omen(0, 5), 0);
        for (int k = 0; k < 8; k++) {
            due("rate(" + k + ", 0)", x.rate(k, 0), NOT);
            due("rate(" + k + ", 1)", x.rate(k, 1), 0);
            due("rate(" + k + ", 2)", x.rate(k, 2), 0);
            due("chance(1, its SET)", x.chance(1, 1 << k), NOT);
            due("table(" + k + ", ..)", x.table(k, 1, 0, 1, 0), NOT);
            due("story(" + k + ", ..)", x.story(k, k, 0), NOT);
        }
    }

    private static void watchTells() {
        CHECK.sentence("A KIND is WATCHED at a PLACE, COUNTED from a to b (a = NONE: not COUNTED; b is not looked at"
                + " then): how many DAYS it was COUNTED till now");
        ToadsBefore x = new ToadsBefore();
        due("at first", x.watch(3, 0, 0, 399), 0);
        due("of all DAYS", x.watch(3, 63, 399, 399), 400);
        due("of one", x.watch(3, 63, 5, 6), 1);
        due("the same again", x.watch(3, 63, 5, 6), 2);
        due("another KIND", x.watch(4, 63, 5, 9), 0);
        int[] last = {NONE, 0, 399, 400, -2, Check.TINY, Check.HUGE};
        for (int b : last) {
            due("COUNTED till now", x.watch(3, 1, NONE, b), 2);
            due("rate(3, 2)", x.rate(3, 2), 0);
            due("rate(3, 0)", x.rate(3, 0), NOT);
            due("not COUNTED till now", x.watch(3, 1, 5, 6), 0);
        }
        due("rate(4, 2): the other is as it was", x.rate(4, 2), 5);
    }

    private static void watchBounds() {
        CHECK.sentence("UNKNOWN, OUTSIDE (b below a)");
        ToadsBefore x = new ToadsBefore();
        x.watch(0, 5, 10, 12);
        write(x, 0, 5, 10);
        due("b is a less 1", x.watch(0, 6, 20, 19), OUTSIDE);
        due("a -2", x.watch(0, 6, -2, 19), OUTSIDE);
        due("b -1", x.watch(0, 6, 0, -1), OUTSIDE);
        due("a 400", x.watch(0, 6, 400, 400), OUTSIDE);
        due("b 400", x.watch(0, 6, 399, 400), OUTSIDE);
        due("place 64", x.watch(0, 64, 1, 2), UNKNOWN);
        due("place -1, a NONE", x.watch(0, -1, NONE, 2), UNKNOWN);
        due("place 64, b below a", x.watch(0, 64, 2, 1), UNKNOWN);
        due("KIND 8, b below a", x.watch(8, 0, 2, 1), UNKNOWN);
        due("omen(0, 5): WATCHED and COUNTED as it was", x.omen(0, 5), 1);
        due("b is a", x.watch(0, 5, 10, 10), 3);
    }

    private static void rainTells() {
        CHECK.sentence("It rains on a DAY (is = true), or not: what it was (1, 0). OUTSIDE");
        ToadsBefore x = new ToadsBefore();
        int[] days = {0, 1, 399};
        for (int d : days) {
            due("never told", x.rain(d, false), 0);
            due("it did not", x.rain(d, true), 0);
            due("it did", x.rain(d, true), 1);
            due("it did", x.rain(d, false), 1);
            due("it did not", x.rain(d, true), 0);
        }
        due("rain(-1, true)", x.rain(-1, true), OUTSIDE);
        due("rain(400, true)", x.rain(400, true), OUTSIDE);
        due("rain(400, false)", x.rain(400, false), OUTSIDE);
        due("count(6)", x.count(6), 3);
    }

    private static void signsFull() {
        CHECK.sentence("SIGNS (100 at most)");
        ToadsBefore x = new ToadsBefore();
        for (int i = 0; i < 100; i++) {
            due("sign", x.sign(i % 8, i, i % 64, i + i % 3), i);
        }
        due("the hundred and first", x.sign(0, 0, 0, 0), FULL);
        due("written ahead of its DAY, and full", x.sign(0, 5, 0, 4), OUTSIDE);
        due("of no KIND, and full", x.sign(8, 5, 0, 5), UNKNOWN);
        due("count(1)", x.count(1), 100);
        due("omen(100, 0)", x.omen(100, 0), UNKNOWN);
        for (int i = 0; i < 100; i += 33) {
            due("omen(" + i + ", 0)", x.omen(i, 0), i % 8);
            due("omen(" + i + ", 1)", x.omen(i, 1), i);
            due("omen(" + i + ", 2)", x.omen(i, 2), i % 64);
            due("omen(" + i + ", 3)", x.omen(i, 3), i + i % 3);
        }
        x.watch(3, 35, 0, 399);
        due("omen(99, 5): the last is one like the others", x.omen(99, 5), 1);
        due("rate(3, 1)", x.rate(3, 1), 1);
    }

    private static void signWritten() {
        CHECK.sentence("were WRITTEN on a DAY (that one, or later: FOUND AFTER)");
        ToadsBefore x = new ToadsBefore();
        due("on its DAY", x.sign(0, 5, 0, 5), 0);
        due("on the next", x.sign(0, 5, 0, 6), 1);
        due("on the last", x.sign(0, 5, 0, 399), 2);
        due("on the DAY ahead", x.sign(0, 5, 0, 4), OUTSIDE);
        due("beyond the last", x.sign(0, 5, 0, 400), OUTSIDE);
        due("DAY 0", x.sign(0, 0, 0, 0), 3);
        due("DAY 0, written on -1", x.sign(0, 0, 0, -1), OUTSIDE);
        due("DAY -1", x.sign(0, -1, 0, 0), OUTSIDE);
        due("DAY 399", x.sign(0, 399, 0, 399), 4);
        due("DAY 400", x.sign(0, 400, 0, 400), OUTSIDE);
        due("place 63", x.sign(0, 5, 63, 5), 5);
        due("place 64", x.sign(0, 5, 64, 5), UNKNOWN);
        due("place -1, written ahead", x.sign(0, 5, -1, 4), UNKNOWN);
        due("count(1)", x.count(1), 6);
    }

    private static void omenTells() {
        CHECK.sentence("Of a SIGN: what = 0 KIND, 1 DAY, 2 PLACE, 3 WRITTEN, 4 OWED, 5 EVEN (1, 0). UNKNOWN, OUTSIDE");
        ToadsBefore x = new ToadsBefore();
        due("omen(0, 0) of none", x.omen(0, 0), UNKNOWN);
        x.sign(7, 399, 63, 399);
        int[] want = {7, 399, 63, 399, 0, 0};
        for (int what = 0; what < 6; what++) {
            due("omen(0, " + what + ")", x.omen(0, what), want[what]);
        }
        due("omen(0, -1)", x.omen(0, -1), OUTSIDE);
        due("omen(0, 6)", x.omen(0, 6), OUTSIDE);
        due("omen(1, 6)", x.omen(1, 6), UNKNOWN);
        due("omen(-1, 0)", x.omen(-1, 0), UNKNOWN);
    }

    /** SIGNS on the first and the last DAYS: those are owed whose DAY left over by 28 is wanted. */
    private static void moonOwns(int a, int b, int... wanted) {
        ToadsBefore x = Check.land("moon " + a + " to " + b + ";");
        for (int i = 0; i < 92; i++) {
            int day = i < 56 ? i : i + 308;
            x.sign(0, day, 0, day);
            boolean owed = false;
            for (int r : wanted) {
                owed |= day % 28 == r;
            }
            due("owed on DAY " + day + " to moon " + a + " to " + b, x.omen(i, 4), owed ? 1 : 0);
        }
    }

    private static int[] allBut(int left) {
        int[] found = new int[28];
        for (int r = 0; r < 28; r++) {
            found[r] = r == left ? 28 : r;
        }
        return found;
    }

    private static void moon() {
        CHECK.sentence("its DAY left over by 28 is from a to b (or, if b is less than a, not from b and 1 to a less 1)");
        moonOwns(0, 0, 0);
        moonOwns(27, 27, 27);
        moonOwns(5, 5, 5);
        moonOwns(5, 7, 5, 6, 7);
        moonOwns(26, 27, 26, 27);
        moonOwns(0, 1, 0, 1);
        moonOwns(27, 0, 27, 0);
        moonOwns(26, 1, 26, 27, 0, 1);
        moonOwns(7, 5, allBut(6));
        moonOwns(27, 25, allBut(26));
        moonOwns(2, 0, allBut(1));
        moonOwns(0, 26, allBut(27));
        moonOwns(1, 27, allBut(0));
        moonOwns(0, 27, allBut(28));
        moonOwns(6, 5, allBut(28));
        moonOwns(1, 0, allBut(28));
        moonOwns(27, 26, allBut(28));
    }

    private static void noMoon() {
        CHECK.sentence("OWED is a SIGN to the MOON, if there is one");
        ToadsBefore x = new ToadsBefore();
        write(x, 0, 0, 0, 27, 28);
        for (int i = 0; i < 3; i++) {
            due("omen(" + i + ", 4) at first", x.omen(i, 4), 0);
        }
        Check.tell(x, "moon 0 to 27;");
        due("omen(0, 4)", x.omen(0, 4), 1);
        Check.tell(x, "rate 1;");
        due("omen(0, 4) behind a law that tells none", x.omen(0, 4), 0);
    }

    private static int owedByRain(int w, int rainy, int day) {
        ToadsBefore x = Check.land("rain " + w + ";");
        x.rain(rainy, true);
        x.sign(0, day, 0, day);
        return x.omen(0, 4);
    }

    private static void rainAhead() {
        CHECK.sentence("to RAIN, if W is above 0 and it rained on its DAY or one of the W - 1 DAYS ahead");
        for (int w = 0; w <= 9; w++) {
            for (int ahead = -1; ahead <= 10; ahead++) {
                int want = ahead >= 0 && ahead < w ? 2 : 0;
                due("W " + w + ", rain " + ahead + " DAYS ahead", owedByRain(w, 50 - ahead, 50), want);
            }
        }
        due("DAY 0", owedByRain(9, 0, 0), 2);
        due("DAY 8, rain on DAY 0", owedByRain(9, 0, 8), 2);
        due("DAY 9, rain on DAY 0", owedByRain(9, 0, 9), 0);
        due("DAY 0, rain on the last DAY", owedByRain(9, 399, 0), 0);
        due("DAY 399", owedByRain(1, 399, 399), 2);
        due("DAY 399, rain on DAY 391", owedByRain(9, 391, 399), 2);
        due("DAY 399, rain on DAY 390", owedByRain(9, 390, 399), 0);
        due("at first W is 0", owedByRain(0, 7, 7), 0);
    }

    private static void ofBothTheMoon() {
        CHECK.sentence("of both the MOON is told");
        ToadsBefore x = Check.land("moon 5 to 5;rain 1;");
        write(x, 0, 0, 5, 6, 33);
        x.rain(5, true);
        x.rain(6, true);
        due("both", x.omen(0, 4), 1);
        due("RAIN alone", x.omen(1, 4), 2);
        due("the MOON alone", x.omen(2, 4), 1);
        x.rain(5, false);
        due("the MOON without rain", x.omen(0, 4), 1);
    }

    private static void even() {
        CHECK.sentence("EVEN is a SIGN, if its KIND is COUNTED on its DAY, it is at the PLACE that is WATCHED, WRITTEN"
                + " on its DAY, and OWED to nothing");
        ToadsBefore x = Check.land("moon 15 to 15;rain 1;");
        x.watch(2, 30, 10, 20);
        x.watch(3, 31, 10, 20);
        x.rain(16, true);
        int[][] signs = {{2, 10, 30, 10, 1}, {2, 20, 30, 20, 1}, {2, 9, 30, 9, 0}, {2, 21, 30, 21, 0},
            {2, 12, 31, 12, 0}, {3, 12, 30, 12, 0}, {3, 12, 31, 12, 1}, {4, 12, 0, 12, 0}, {2, 12, 30, 13, 0},
            {2, 12, 30, 399, 0}, {2, 12, 30, 12, 1}, {2, 15, 30, 15, 0}, {2, 16, 30, 16, 0}, {2, 17, 30, 17, 1}};
        for (int i = 0; i < signs.length; i++) {
            x.sign(signs[i][0], signs[i][1], signs[i][2], signs[i][3]);
            due("omen(" + i + ", 5)", x.omen(i, 5), signs[i][4]);
        }
        due("rate(2, 1): 10, 12, 17, 20", x.rate(2, 1), 4);
        due("rate(3, 1): 12", x.rate(3, 1), 1);
        x.watch(2, 30, 0, 399);
        due("omen(2, 5) with more DAYS", x.omen(2, 5), 1);
        x.watch(2, 30, NONE, 0);
        due("omen(0, 5) of a KIND that is not COUNTED", x.omen(0, 5), 0);
    }

    private static void evenByTheLawOfNow() {
        CHECK.sentence("OWED to nothing");
        ToadsBefore x = new ToadsBefore();
        x.watch(0, 5, 390, 399);
        write(x, 0, 5, 399);
        due("omen(0, 5)", x.omen(0, 5), 1);
        due("rate(0, 1)", x.rate(0, 1), 1);
        Check.tell(x, "rain 2;");
        x.rain(398, true);
        due("omen(0, 5): it rained", x.omen(0, 5), 0);
        due("rate(0, 1): it rained", x.rate(0, 1), 0);
        x.rain(398, false);
        due("rate(0, 1): it did not", x.rate(0, 1), 1);
        // 399 is 14 times 28 and 7.
        Check.tell(x, "moon 7 to 7;");
        due("rate(0, 1): the MOON", x.rate(0, 1), 0);
        Check.tell(x, "moon 8 to 6;");
        due("rate(0, 1): another MOON", x.rate(0, 1), 1);
        x.watch(0, 6, 390, 399);
        due("rate(0, 1): WATCHED elsewhere", x.rate(0, 1), 0);
    }

    private static void oddDays() {
        CHECK.sentence("A DAY is ODD for a KIND, if it has an EVEN SIGN of it");
        ToadsBefore x = new ToadsBefore();
        x.watch(0, 5, 0, 399);
        x.watch(7, 5, 0, 399);
        due("none", x.rate(0, 1), 0);
        write(x, 0, 5, 0, 0, 0);
        due("three on the first DAY", x.rate(0, 1), 1);
        write(x, 0, 5, 399, 399);
        due("two on the last", x.rate(0, 1), 2);
        x.sign(0, 200, 5, 201);
        due("FOUND AFTER", x.rate(0, 1), 2);
        x.sign(0, 200, 5, 200);
        due("and one that is EVEN", x.rate(0, 1), 3);
        due("of another KIND", x.rate(7, 1), 0);
        write(x, 7, 5, 0);
        due("of another KIND", x.rate(7, 1), 1);
        due("rate(0, 1)", x.rate(0, 1), 3);
    }

    private static void rates() {
        CHECK.sentence("RATE of a KIND, of a MILLION: ODD DAYS times MILLION / COUNTED DAYS (cut)");
        ToadsBefore x = new ToadsBefore();
        x.watch(0, 5, 0, 0);
        due("0 of 1", x.rate(0, 0), 0);
        write(x, 0, 5, 0);
        due("1 of 1", x.rate(0, 0), 1000000);
        int[][] cases = {{1, 500000}, {2, 333333}, {6, 142857}, {398, 2506}, {399, 2500}};
        for (int[] one : cases) {
            x.watch(0, 5, 0, one[0]);
            due("1 of " + (one[0] + 1), x.rate(0, 0), one[1]);
        }
        write(x, 0, 5, 2);
        x.watch(0, 5, 0, 2);
        due("2 of 3", x.rate(0, 0), 666666);
        due("rate(0, 2)", x.rate(0, 2), 3);
        x.watch(0, 5, 1, 2);
        due("1 of 2: DAY 0 is no longer COUNTED", x.rate(0, 0), 500000);
        x.watch(0, 5, 1, 1);
        due("0 of 1: DAY 2 is no longer COUNTED", x.rate(0, 0), 0);
    }

    private static void rateRefusals() {
        CHECK.sentence("UNKNOWN, OUTSIDE, NOT: it is not COUNTED (what = 0)");
        ToadsBefore x = new ToadsBefore();
        due("rate(0, 0)", x.rate(0, 0), NOT);
        due("rate(0, 1)", x.rate(0, 1), 0);
        due("rate(0, 2)", x.rate(0, 2), 0);
        due("rate(0, -1)", x.rate(0, -1), OUTSIDE);
        due("rate(0, 3)", x.rate(0, 3), OUTSIDE);
        due("rate(8, 3)", x.rate(8, 3), UNKNOWN);
    }

    private static void windowDays() {
        CHECK.sentence("SIGNS of these on the w DAYS ahead of its DAY, but on its DAY or later no sign counts");
        for (int w = 1; w <= 60; w++) {
            ToadsBefore x = new ToadsBefore();
            x.shake(100, 27, 1);
            write(x, 0, 27, 100 - w - 1);
            due("w and 1 ahead, w " + w, x.window(0, w, 0, 1), 0);
            write(x, 0, 27, 100 - w);
            due("w ahead, w " + w, x.window(0, w, 0, 1), 1);
            write(x, 0, 27, 99);
            due("1 ahead, w " + w, x.window(0, w, 0, 1), 2);
            write(x, 0, 27, 100, 101, 100 + w);
            due("on its DAY or later, w " + w, x.window(0, w, 0, 1), 2);
        }
        ToadsBefore y = new ToadsBefore();
        y.shake(0, 27, 1);
        y.shake(1, 27, 1);
        write(y, 0, 27, 0, 399);
        due("no DAYS ahead of DAY 0", y.window(0, 60, 7, 255), 0);
        due("DAY 0 ahead of DAY 1", y.window(1, 60, 7, 255), 1);
    }

    private static void windowFarAndKinds() {
        CHECK.sentence("m or less FAR from it");
        ToadsBefore x = new ToadsBefore();
        x.shake(100, 8, 1);
        int[] places = {8, 9, 26, 7, 63};
        for (int p : places) {
            write(x, 0, p, 99);
        }
        int[] want = {1, 2, 3, 3, 3, 3, 3, 5};
        for (int m = 0; m < 8; m++) {
            due("m " + m, x.window(0, 1, m, 1), want[m]);
        }
        CHECK.sentence("A SET is a whole number, bit k for k");
        ToadsBefore y = new ToadsBefore();
        y.shake(100, 8, 1);
        for (int k = 0; k < 8; k++) {
            for (int i = 0; i <= k; i++) {
                write(y, k, 8, 99);
            }
        }
        for (int k = 0; k < 8; k++) {
            due("KIND " + k + " alone", y.window(0, 1, 0, 1 << k), k + 1);
            due("all but KIND " + k, y.window(0, 1, 0, 255 - (1 << k)), 35 - k);
        }
        due("no KIND", y.window(0, 1, 0, 0), 0);
        due("all KINDS", y.window(0, 1, 0, 255), 36);
    }

    private static void windowHoweverWritten() {
        CHECK.sentence("however WRITTEN");
        ToadsBefore x = Check.land("moon 0 to 27;rain 9;");
        x.shake(100, 27, 1);
        x.rain(99, true);
        due("on its DAY", x.sign(0, 99, 27, 99), 0);
        due("window(0, 1, 0, 1)", x.window(0, 1, 0, 1), 1);
        due("on the DAY of the SHAKE", x.sign(0, 99, 27, 100), 1);
        due("window(0, 1, 0, 1)", x.window(0, 1, 0, 1), 2);
        due("long after", x.sign(0, 99, 27, 399), 2);
        due("window(0, 1, 0, 1)", x.window(0, 1, 0, 1), 3);
        x.watch(0, 1, 300, 301);
        due("owed, not COUNTED, WATCHED elsewhere: all the same", x.window(0, 1, 0, 1), 3);
    }

    private static void windowBounds() {
        CHECK.sentence("WINDOW of a SHAKE: w 1 .. 60, m 0 .. 7, KINDS (0 .. 255). UNKNOWN, OUTSIDE");
        ToadsBefore x = new ToadsBefore();
        due("of no SHAKE", x.window(0, 1, 0, 0), UNKNOWN);
        x.shake(9, 9, 9);
        due("the least", x.window(0, 1, 0, 0), 0);
        due("the most", x.window(0, 60, 7, 255), 0);
        due("w 0", x.window(0, 0, 0, 0), OUTSIDE);
        due("w 61", x.window(0, 61, 0, 0), OUTSIDE);
        due("m -1", x.window(0, 1, -1, 0), OUTSIDE);
        due("m 8", x.window(0, 1, 8, 0), OUTSIDE);
        due("KINDS -1", x.window(0, 1, 0, -1), OUTSIDE);
        due("KINDS 256", x.window(0, 1, 0, 256), OUTSIDE);
        due("SHAKE 1, all else wrong", x.window(1, 0, 8, 256), UNKNOWN);
        due("SHAKE -1", x.window(-1, 1, 0, 0), UNKNOWN);
    }

    private static void chanceProduct() {
        CHECK.sentence("BY CHANCE, of a MILLION: a MILLION less the product: for each KIND, w times: times (MILLION less"
                + " RATE) / MILLION (cut)");
        ToadsBefore x = new ToadsBefore();
        due("of no KIND", x.chance(1, 0), 0);
        due("of no KIND", x.chance(60, 0), 0);
        x.watch(0, 5, 0, 2);
        due("RATE 0", x.chance(60, 1), 0);
        write(x, 0, 5, 0);
        // 666667, 444444.8, 296296.1, 197530.7, 131686.7.
        int[] want = {333333, 555556, 703704, 802470, 868314};
        for (int w = 1; w <= 5; w++) {
            due("a third, w " + w, x.chance(w, 1), want[w - 1]);
        }
        due("a third, w 60", x.chance(60, 1), 1000000);
        x.watch(7, 5, 0, 0);
        due("RATE 0 beside it", x.chance(1, 129), 333333);
        write(x, 7, 5, 0);
        due("RATE a MILLION", x.chance(1, 128), 1000000);
        due("RATE a MILLION beside it", x.chance(1, 129), 1000000);
        x.watch(3, 5, 0, 6);
        write(x, 3, 5, 0);
        // A third and a seventh, on two DAYS: 444444; times 857143 / MILLION is 380952.06, 326530.3.
        due("of two KINDS, w 2", x.chance(2, 9), 673470);
    }

    private static void chanceCounted() {
        CHECK.sentence("NOT: some KIND of it is not COUNTED");
        ToadsBefore x = new ToadsBefore();
        for (int k = 0; k < 8; k++) {
            x.watch(k, 5, 0, 9);
        }
        due("all are", x.chance(1, 255), 0);
        for (int k = 0; k < 8; k++) {
            x.watch(k, 5, NONE, 9);
            due("all but " + k, x.chance(1, 255), NOT);
            due(k + " alone", x.chance(1, 1 << k), NOT);
            due("those that are", x.chance(1, 255 - (1 << k)), 0);
            due("none of them", x.chance(1, 0), 0);
            x.watch(k, 5, 0, 9);
        }
    }

    private static void chanceBounds() {
        CHECK.sentence("BY CHANCE. OUTSIDE, NOT");
        ToadsBefore x = new ToadsBefore();
        due("w 0, not COUNTED", x.chance(0, 1), OUTSIDE);
        due("w 61, not COUNTED", x.chance(61, 1), OUTSIDE);
        due("KINDS 256, not COUNTED", x.chance(1, 256), OUTSIDE);
        due("KINDS -1", x.chance(1, -1), OUTSIDE);
        due("KINDS 255", x.chance(1, 255), NOT);
    }

    private static void tables(ToadsBefore x, int w, int m, int z, int... want) {
        for (int i = 0; i < want.length; i++) {
            due("table(0, " + w + ", " + m + ", " + z + ", " + i + ")", x.table(0, w, m, z, i), want[i]);
        }
    }

    private static void tableLastOnes() {
        CHECK.sentence("its COUNTED DAYS but the last w ones");
        ToadsBefore x = new ToadsBefore();
        x.watch(0, 27, 10, 20);
        tables(x, 1, 7, 1, 0, 0, 0, 10, 0);
        tables(x, 9, 7, 1, 0, 0, 0, 2, 0);
        tables(x, 10, 7, 1, 0, 0, 0, 1, 0);
        write(x, 0, 27, 10, 12);
        tables(x, 8, 7, 1, 0, 2, 0, 1, 0);
        tables(x, 9, 7, 1, 0, 1, 0, 1, 0);
        x.watch(0, 27, 0, 399);
        tables(x, 60, 7, 1, 0, 2, 0, 338, 0);
        CHECK.sentence("NOT: it is not COUNTED on more than w DAYS");
        x.watch(0, 27, 339, 399);
        tables(x, 60, 7, 1, 0, 0, 0, 1, 0);
        x.watch(0, 27, 340, 399);
        for (int i = 0; i < 5; i++) {
            due("on 60 DAYS, w 60", x.table(0, 60, 7, 1, i), NOT);
            due("on 60 DAYS, w 59", x.table(0, 59, 7, 1, i), i == 3 ? 1 : 0);
        }
        x.watch(0, 27, 5, 5);
        due("on one DAY", x.table(0, 1, 7, 1, 0), NOT);
        x.watch(0, 27, NONE, 5);
        due("not COUNTED", x.table(0, 1, 7, 1, 0), NOT);
    }

    private static void tableDaysBehind() {
        CHECK.sentence("has a SHAKE .. on the w DAYS behind it, or not");
        for (int shakeDay = 98; shakeDay <= 108; shakeDay++) {
            ToadsBefore x = new ToadsBefore();
            // With w 5 the DAYS from 100 to 102 are left.
            x.watch(0, 27, 100, 107);
            x.shake(shakeDay, 27, 1);
            int with = 0;
            for (int day = 100; day <= 102; day++) {
                with += shakeDay > day && shakeDay <= day + 5 ? 1 : 0;
            }
            tables(x, 5, 0, 1, 0, 0, with, 3 - with, with == 0 ? 0 : -1000 * with / 3);
        }
        ToadsBefore y = new ToadsBefore();
        y.watch(0, 27, 0, 399);
        y.shake(0, 27, 1);
        tables(y, 1, 7, 1, 0, 0, 0, 399);
        y.shake(1, 27, 1);
        tables(y, 60, 7, 1, 0, 0, 1, 339);
        y.shake(399, 27, 1);
        tables(y, 1, 7, 1, 0, 0, 2, 397);
        tables(y, 60, 7, 1, 0, 0, 2, 338);
        y.shake(399, 27, 1);
        tables(y, 60, 7, 1, 0, 0, 2, 338);
    }

    private static void tableOfTheBookOfNow() {
        CHECK.sentence("has a SHAKE .. on the w DAYS behind it, or not");
        ToadsBefore x = new ToadsBefore();
        x.watch(0, 27, 0, 399);
        x.keep(0);
        x.shake(1, 27, 1);
        x.shake(399, 27, 1);
        tables(x, 1, 7, 1, 0, 0, 2, 397);
        x.goBack(0);
        tables(x, 1, 7, 1, 0, 0, 0, 399);
    }

    private static void tableFarAndSize() {
        CHECK.sentence("a SHAKE of SIZE z or more, m or less FAR from where it is WATCHED");
        ToadsBefore x = new ToadsBefore();
        x.watch(0, 8, 10, 11);
        x.shake(11, 26, 4);
        tables(x, 1, 2, 4, 0, 0, 1, 0, -1000);
        tables(x, 1, 1, 4, 0, 0, 0, 1, 0);
        tables(x, 1, 2, 5, 0, 0, 0, 1, 0);
        tables(x, 1, 2, 1, 0, 0, 1, 0, -1000);
        x.watch(0, 29, 10, 11);
        tables(x, 1, 3, 1, 0, 0, 1, 0, -1000);
        tables(x, 1, 2, 1, 0, 0, 0, 1, 0);
        x.watch(0, 15, 10, 11);
        x.shake(11, 16, 9);
        tables(x, 1, 6, 9, 0, 0, 0, 1, 0);
        tables(x, 1, 7, 9, 0, 0, 1, 0, -1000);
    }

    private static void tableOdd() {
        CHECK.sentence("each is ODD or not");
        ToadsBefore x = new ToadsBefore();
        x.watch(0, 27, 10, 20);
        write(x, 0, 27, 9, 10, 10, 19, 20);
        x.sign(0, 11, 27, 12);
        x.sign(0, 12, 28, 12);
        x.sign(1, 13, 27, 13);
        tables(x, 1, 7, 1, 0, 2, 0, 8);
        tables(x, 2, 7, 1, 0, 1, 0, 8);
        x.shake(11, 27, 1);
        tables(x, 1, 7, 1, 1, 1, 0, 8, 500);
        tables(x, 2, 7, 1, 1, 0, 0, 8, 1000);
        Check.tell(x, "moon 10 to 10;");
        tables(x, 1, 7, 1, 0, 1, 1, 8, -111);
    }

    private static void worth() {
        CHECK.sentence("WORTH: 1000 times (of ODD ones those with a SHAKE) / ODD ones, less 1000 times (of others those"
                + " with a SHAKE) / others (each cut; 0 of none)");
        ToadsBefore x = new ToadsBefore();
        x.watch(0, 27, 0, 7);
        tables(x, 1, 7, 1, 0, 0, 0, 7, 0);
        write(x, 0, 27, 0, 1, 2, 3, 4, 5, 6);
        tables(x, 1, 7, 1, 0, 7, 0, 0, 0);
        x.shake(1, 27, 1);
        tables(x, 1, 7, 1, 1, 6, 0, 0, 142);
        x.watch(0, 27, 0, 10);
        x.shake(8, 27, 1);
        x.shake(9, 27, 1);
        // One of seven is 142.8, two of three 666.6: each cut, and then the one less the other.
        tables(x, 1, 7, 1, 1, 6, 2, 1, 142 - 666);
        x.watch(0, 27, 0, 8);
        tables(x, 1, 7, 1, 1, 6, 1, 0, 142 - 1000);
        ToadsBefore y = new ToadsBefore();
        y.watch(0, 27, 0, 3);
        y.shake(1, 27, 1);
        tables(y, 1, 7, 1, 0, 0, 1, 2, -333);
        write(y, 0, 27, 0);
        tables(y, 1, 7, 1, 1, 0, 0, 2, 1000);
    }

    private static void tableBounds() {
        CHECK.sentence("TABLE: i = 0 .. 3 the numbers, 4 WORTH. UNKNOWN, OUTSIDE (w, m, z, i), NOT");
        ToadsBefore x = new ToadsBefore();
        for (int round = 0; round < 2; round++) {
            due("w 0", x.table(0, 0, 0, 1, 0), OUTSIDE);
            due("w 61", x.table(0, 61, 0, 1, 0), OUTSIDE);
            due("m -1", x.table(0, 1, -1, 1, 0), OUTSIDE);
            due("m 8", x.table(0, 1, 8, 1, 0), OUTSIDE);
            due("z 0", x.table(0, 1, 0, 0, 0), OUTSIDE);
            due("z 10", x.table(0, 1, 0, 10, 0), OUTSIDE);
            due("i -1", x.table(0, 1, 0, 1, -1), OUTSIDE);
            due("i 5", x.table(0, 1, 0, 1, 5), OUTSIDE);
            due("KIND 8, all else wrong", x.table(8, 0, 8, 10, 5), UNKNOWN);
            // The same once more for a KIND that is COUNTED.
            x.watch(0, 0, 0, 399);
        }
        due("w 60, m 7, z 9, i 4", x.table(0, 60, 7, 9, 4), 0);
        due("w 1, m 0, z 1, i 3", x.table(0, 1, 0, 1, 3), 399);
    }

    private static void storyDays() {
        CHECK.sentence("if a DAY is ODD for j, then k must be ODD on it or one of the w DAYS behind it");
        for (int behind = -1; behind <= 61; behind++) {
            ToadsBefore x = new ToadsBefore();
            x.watch(0, 5, 0, 399);
            x.watch(1, 6, 0, 399);
            write(x, 0, 5, 100);
            write(x, 1, 6, 100 + behind);
            for (int w = 0; w <= 60; w += w < 2 ? 1 : 29) {
                boolean kept = behind >= 0 && behind <= w;
                due("k is ODD " + behind + " DAYS behind, w " + w, x.story(0, 1, w), kept ? 0 : 1);
            }
        }
        ToadsBefore x = new ToadsBefore();
        x.watch(0, 5, 0, 399);
        due("no DAY is ODD", x.story(0, 0, 60), 0);
        write(x, 0, 5, 3, 7, 399);
        due("by itself", x.story(0, 0, 0), 0);
        x.watch(7, 5, 0, 399);
        due("each DAY of its own", x.story(0, 7, 0), 3);
    }

    private static int against(int from, int to, int w, int day) {
        ToadsBefore x = new ToadsBefore();
        x.watch(0, 5, 0, 399);
        x.watch(1, 6, from, to);
        write(x, 0, 5, day);
        return x.story(0, 1, w);
    }

    private static void storyCounted() {
        CHECK.sentence("AGAINST it are ODD DAYS of j on which (that and those w) k is COUNTED, and not ODD on any");
        due("the first COUNTED DAY", against(10, 20, 3, 10), 1);
        due("the DAY ahead of it", against(10, 20, 3, 9), 0);
        due("w ahead of the last", against(10, 20, 3, 17), 1);
        due("w less 1 ahead of the last", against(10, 20, 3, 18), 0);
        due("the last, w 0", against(10, 20, 0, 20), 1);
        due("the last, w 1", against(10, 20, 1, 20), 0);
        due("behind the last, w 0", against(10, 20, 0, 21), 0);
        due("as many DAYS as w and 1", against(10, 20, 10, 10), 1);
        due("as many DAYS as w", against(10, 20, 11, 10), 0);
        due("DAY 399, w 0", against(0, 399, 0, 399), 1);
        due("DAY 399, w 1", against(0, 399, 1, 399), 0);
        due("DAY 339, w 60", against(0, 399, 60, 339), 1);
        due("DAY 340, w 60", against(0, 399, 60, 340), 0);
        due("DAY 0, w 60", against(0, 60, 60, 0), 1);
        due("DAY 0, w 60", against(0, 59, 60, 0), 0);
    }

    private static void storyRefusals() {
        CHECK.sentence("UNKNOWN, OUTSIDE (w 0 .. 60), NOT: one of both is not COUNTED");
        ToadsBefore x = new ToadsBefore();
        due("neither", x.story(0, 1, 0), NOT);
        due("neither, w 61", x.story(0, 1, 61), OUTSIDE);
        due("neither, w -1", x.story(0, 1, -1), OUTSIDE);
        due("KIND 8, w 61", x.story(0, 8, 61), UNKNOWN);
        x.watch(0, 5, 0, 399);
        due("k is not", x.story(0, 1, 0), NOT);
        due("j is not", x.story(1, 0, 0), NOT);
        x.watch(1, 5, 399, 399);
        due("both are", x.story(0, 1, 0), 0);
        due("w 60", x.story(0, 1, 60), 0);
        due("w 61", x.story(0, 1, 61), OUTSIDE);
        due("w -1", x.story(0, 1, -1), OUTSIDE);
        x.watch(0, 5, NONE, 0);
        due("j is no longer", x.story(0, 1, 0), NOT);
    }
}
