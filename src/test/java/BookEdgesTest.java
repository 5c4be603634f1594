/** THE BOOK, RUNS and ODDS (parts 1 and 2 of the terms, promises 8 to 13): each sentence that names a boundary case. */
public final class BookEdgesTest {
    private static final int NONE = Check.NONE, UNKNOWN = Check.UNKNOWN, OUTSIDE = Check.OUTSIDE, NOT = Check.NOT,
        FULL = Check.FULL, HUGE = Check.HUGE;
    private static final Check CHECK = new Check("BookEdgesTest");

    // Each SHAKE brings another on the next DAY at its own PLACE: 999 times 9 is above all DRAWS of 1000.
    private static final String CERTAIN = "rate 0;grow 0;after 999;days 1;near 0;";

    private static void due(String call, long got, long want) {
        CHECK.due(call, got, want);
    }

    public static void main(String[] args) {
        shakesInOrder();
        shakeBounds();
        shakeOnTheDay();
        seeds();
        runFromTheDay();
        runBounds();
        drawsOfTheSeed();
        mainDraw();
        earlierDays();
        daysAhead();
        inOrderOfTheBook();
        afterDraw();
        cellsInOrder();
        sizes();
        fullEndsARun();
        fullRefusesARun();
        about();
        count();
        oddsAlone();
        oddsOfDays();
        oddsByShakesTillD();
        oddsBehindD();
        oddsOfAfter();
        oddsOfPlaces();
        oddsCut();
        oddsBounds();
        CHECK.finish();
    }

    private static void isShake(ToadsBefore x, int k, int day, int place, int size) {
        due("about(" + k + ", 0)", x.about(k, 0), day);
        due("about(" + k + ", 1)", x.about(k, 1), place);
        due("about(" + k + ", 2)", x.about(k, 2), size);
    }

    private static ToadsBefore fullBook(int day) {
        ToadsBefore x = new ToadsBefore();
        for (int k = 0; k < 60; k++) {
            x.shake(day, k, 1 + k % 9);
        }
        return x;
    }

    private static void shakesInOrder() {
        CHECK.sentence("THE BOOK has SHAKES (60 at most), each of a DAY, a PLACE, a SIZE, in order of DAYS (of like"
                + " ones as they came)");
        ToadsBefore x = fullBook(9);
        for (int k = 0; k < 60; k++) {
            isShake(x, k, 9, k, 1 + k % 9);
        }
        due("the sixty-first", x.shake(9, 0, 1), FULL);
        due("count(0)", x.count(0), 60);
        due("about(60, 0)", x.about(60, 0), UNKNOWN);
    }

    private static void shakeBounds() {
        CHECK.sentence("DAYS are 0 to 399 .. SIZES are 1 to 9 .. PLACES 0 to 63");
        ToadsBefore x = new ToadsBefore();
        due("shake(0, 0, 1)", x.shake(0, 0, 1), 0);
        due("shake(399, 63, 9)", x.shake(399, 63, 9), 1);
        isShake(x, 0, 0, 0, 1);
        isShake(x, 1, 399, 63, 9);
        due("shake(400, 0, 1)", x.shake(400, 0, 1), OUTSIDE);
        due("shake(-1, 0, 1)", x.shake(-1, 0, 1), OUTSIDE);
        due("shake(399, 0, 0)", x.shake(399, 0, 0), OUTSIDE);
        due("shake(399, 0, 10)", x.shake(399, 0, 10), OUTSIDE);
        due("shake(399, 64, 1)", x.shake(399, 64, 1), UNKNOWN);
        due("shake(399, -1, 1)", x.shake(399, -1, 1), UNKNOWN);
    }

    private static void shakeOnTheDay() {
        CHECK.sentence("A SHAKE in THE BOOK, THE DAY becomes its DAY: its number .. NOT: THE DAY is later");
        ToadsBefore x = new ToadsBefore();
        due("shake(7, 1, 1)", x.shake(7, 1, 1), 0);
        due("count(4)", x.count(4), 7);
        due("the DAY ahead", x.shake(6, 1, 1), NOT);
        due("the same DAY", x.shake(7, 1, 1), 1);
        due("the DAY behind", x.shake(8, 1, 1), 2);
        due("count(4)", x.count(4), 8);
        due("no longer", x.shake(7, 1, 1), NOT);
        Check.tell(x, "rate 0;after 0;");
        x.run(3);
        due("ahead of the last DAY of a RUN", x.shake(10, 1, 1), NOT);
        due("on it", x.shake(11, 1, 1), 3);
        CHECK.sentence("NOT: THE DAY is later; FULL");
        ToadsBefore y = fullBook(9);
        due("ahead of THE DAY, and full", y.shake(8, 0, 1), NOT);
        due("full", y.shake(9, 0, 1), FULL);
        due("full, another DAY", y.shake(10, 0, 1), FULL);
        due("count(4)", y.count(4), 9);
    }

    private static void seeds() {
        CHECK.sentence("THE SEED becomes v (0 .. 2147483647): what it was. OUTSIDE");
        ToadsBefore x = new ToadsBefore();
        due("seed(HUGE): 0 at first", x.seed(HUGE), 0);
        due("seed(0)", x.seed(0), HUGE);
        due("seed(1)", x.seed(1), 0);
        due("seed(-1)", x.seed(-1), OUTSIDE);
        due("seed(tiny)", x.seed(Check.TINY), OUTSIDE);
        due("seed(0)", x.seed(0), 1);
    }

    private static int firstDayOf(ToadsBefore x) {
        int before = x.count(0);
        Check.tell(x, "rate 999;");
        // A DRAW of 1000 is 999 or more for no seed of these.
        x.seed(1);
        x.run(1);
        return x.about(before, 0);
    }

    private static void runFromTheDay() {
        CHECK.sentence("A RUN goes on from THE DAY (0 at first; that of a SHAKE told by shake(); behind a RUN the last"
                + " DAY that it went)");
        ToadsBefore x = new ToadsBefore();
        due("the first DAY of all", firstDayOf(x), 1);
        due("count(4)", x.count(4), 1);
        x.shake(30, 0, 1);
        due("behind a SHAKE", firstDayOf(x), 31);
        Check.tell(x, "rate 0;after 0;");
        x.run(5);
        due("count(4)", x.count(4), 36);
        due("behind a RUN", firstDayOf(x), 37);
        ToadsBefore y = new ToadsBefore();
        y.shake(0, 0, 1);
        due("behind a SHAKE of DAY 0", firstDayOf(y), 1);
        y.keep(0);
        y.shake(50, 0, 1);
        y.goBack(0);
        due("behind an IMAGE", firstDayOf(y), 2);
    }

    private static void runBounds() {
        CHECK.sentence("A RUN over the n DAYS (1 .. 399) behind THE DAY, to 399 at most: how many SHAKES came. OUTSIDE");
        ToadsBefore x = Check.land("rate 0;after 0;");
        due("run(0)", x.run(0), OUTSIDE);
        due("run(400)", x.run(400), OUTSIDE);
        due("run(-1)", x.run(-1), OUTSIDE);
        due("count(4)", x.count(4), 0);
        due("run(1)", x.run(1), 0);
        due("count(4)", x.count(4), 1);
        due("run(397)", x.run(397), 0);
        due("count(4)", x.count(4), 398);
        x.seed(5);
        due("run(2), one DAY is left", x.run(2), 0);
        due("count(4)", x.count(4), 399);
        due("one DRAW", x.seed(5), Draws.seedBehind(5, 1));
        due("run(1), none is left", x.run(1), 0);
        due("count(4)", x.count(4), 399);
        due("no DRAW", x.seed(5), 5);
        ToadsBefore y = Check.land("rate 0;");
        due("run(399)", y.run(399), 0);
        due("count(4)", y.count(4), 399);
        due("so many DRAWS", y.seed(0), Draws.seedBehind(0, 399));
        due("shake(399, 0, 1)", y.shake(399, 0, 1), 0);
    }

    private static void drawsOfTheSeed() {
        CHECK.sentence("each DRAW it becomes it times 1103515245 and 12345, left over by 2 to the 31");
        int[] before = {0, 1, 2, 65535, 65536, 1073741823, 1073741824, 2147483646, HUGE};
        // The first and the last by hand: 12345; 2 to the 31, and 12345 less 1103515245.
        due("behind 0", Draws.seedBehind(0, 1), 12345);
        due("behind the greatest", Draws.seedBehind(HUGE, 1), 1043980748);
        for (int v : before) {
            ToadsBefore x = Check.land("rate 0;");
            x.seed(v);
            x.run(1);
            due("seed behind one DRAW of " + v, x.seed(0), Draws.seedBehind(v, 1));
        }
    }

    /** One DAY of a land without a BOOK by many seeds, beside DRAWS that are counted out. */
    private static void mainDraw() {
        CHECK.sentence("On each DAY: one DRAW of 1000: below R: a SHAKE at a PLACE by a DRAW of 64");
        int below = 0;
        int same = 0;
        for (int v = 0; v < 400; v++) {
            Draws draws = new Draws(v * 5368709L);
            int first = draws.of(1000);
            int rate = Math.min(999, Math.max(0, first + v % 2));
            ToadsBefore x = Check.land("grow 0;rate " + rate + ";");
            x.seed(v * 5368709);
            boolean comes = first < rate;
            due("run(1), DRAW " + first + ", R " + rate, x.run(1), comes ? 1 : 0);
            if (comes) {
                below++;
                isShake(x, 0, 1, draws.of(64), draws.size(0));
            } else {
                same += first == rate ? 1 : 0;
            }
            due("seed", x.seed(0), draws.seed());
        }
        CHECK.holds("both sides of the line were met", below > 100 && same > 100);
    }

    private static void earlierDays() {
        CHECK.sentence("then for each SHAKE of THE BOOK of an earlier DAY");
        // Each SHAKE is followed for sure, but not on its own DAY.
        ToadsBefore x = Check.land("rate 999;grow 99;after 999;days 30;near 0;");
        x.seed(1);
        due("the first DAY: the one of the DAY alone", x.run(1), 1);
        Draws draws = new Draws(1);
        draws.of(1000);
        draws.of(64);
        draws.size(99);
        due("seed", x.seed((int) draws.seed()), draws.seed());
        due("the second: one of the DAY and one behind the first", x.run(1), 2);
        due("the third: one of the DAY and three behind", x.run(1), 4);
        ToadsBefore y = Check.land(CERTAIN);
        y.shake(5, 3, 9);
        due("one told on THE DAY is earlier than the next", y.run(1), 1);
        isShake(y, 1, 6, 3, 1);
    }

    private static void daysAhead() {
        CHECK.sentence("D DAYS ahead at most: a DRAW of 1000");
        int[] reach = {1, 2, 3, 30};
        for (int days : reach) {
            ToadsBefore x = Check.land("rate 0;after 0;days " + days + ";");
            x.shake(5, 0, 9);
            x.shake(6, 0, 9);
            x.seed(11);
            x.run(35);
            // From 7 to 41: the one is drawn for till 5 and D, the other till 6 and D.
            due("DRAWS, D " + days, x.seed(0), Draws.seedBehind(11, 35 + days - 1 + days));
        }
        ToadsBefore x = Check.land(CERTAIN);
        x.shake(5, 3, 9);
        Check.tell(x, "rate 0;after 0;days 1;");
        x.run(1);
        Check.tell(x, "rate 0;after 999;days 1;");
        due("2 DAYS behind, D 1", x.run(1), 0);
        ToadsBefore y = new ToadsBefore();
        y.shake(5, 3, 9);
        Check.tell(y, "rate 0;after 0;");
        y.run(29);
        Check.tell(y, "rate 0;after 999;days 30;near 0;grow 0;");
        // 999 times 9 / 30 is 299.
        int v = seedWith(2, 1000, 298);
        y.seed(v);
        due("30 DAYS behind, D 30", y.run(1), 1);
        Check.tell(y, "rate 0;after 0;days 30;");
        due("31 DAYS behind, D 30: DRAWS of the DAY and of the new one alone", drawsOf(y, 1), 2);
    }

    /** A seed whose DRAW of that number, of n, is as wanted. */
    private static int seedWith(int draw, int n, int wanted) {
        for (int v = 0; v < 1000000; v++) {
            if (Draws.last(v, draw, n) == wanted) {
                return v;
            }
        }
        return NONE;
    }

    /** How many DRAWS a RUN takes: those from a seed to what it becomes. */
    private static int drawsOf(ToadsBefore x, int days) {
        x.seed(123);
        x.run(days);
        int after = x.seed(0);
        for (int n = 0; n < 1000; n++) {
            if (Draws.seedBehind(123, n) == after) {
                return n;
            }
        }
        return NONE;
    }

    private static void inOrderOfTheBook() {
        CHECK.sentence("then for each SHAKE of THE BOOK of an earlier DAY, in order");
        ToadsBefore x = Check.land(CERTAIN);
        x.shake(5, 60, 9);
        x.shake(5, 3, 9);
        x.shake(5, 41, 9);
        due("run(1)", x.run(1), 3);
        isShake(x, 3, 6, 60, 1);
        isShake(x, 4, 6, 3, 1);
        isShake(x, 5, 6, 41, 1);
        CHECK.sentence("a SHAKE at a PLACE by a DRAW of 64; then for each SHAKE of THE BOOK");
        ToadsBefore y = Check.land("rate 999;grow 0;after 999;days 1;near 0;");
        y.shake(5, 60, 9);
        y.seed(1);
        due("run(1)", y.run(1), 2);
        isShake(y, 1, 6, Draws.last(1, 2, 64), 1);
        isShake(y, 2, 6, 60, 1);
    }

    private static int after(int size, int a, int behind, int v) {
        ToadsBefore x = new ToadsBefore();
        x.shake(20, 27, size);
        Check.tell(x, "rate 0;after 0;days 1;");
        if (behind > 1) {
            x.run(behind - 1);
        }
        Check.tell(x, "rate 0;days 30;after " + a + ";");
        x.seed(v);
        return x.run(1);
    }

    private static void afterDraw() {
        CHECK.sentence("a DRAW of 1000: below A times s / k: a SHAKE at one of the CELLS (q, N)");
        // Of the DAY one DRAW, that behind the SHAKE is the second. A, s, k, and what A times s / k is, cut.
        int[][] cases = {{5, 1, 1, 5}, {5, 1, 2, 2}, {5, 1, 5, 1}, {7, 9, 10, 6}, {100, 5, 3, 166}, {999, 1, 1, 999},
            {999, 9, 30, 299}, {999, 9, 9, 999}};
        for (int[] one : cases) {
            String by = "A " + one[0] + ", s " + one[1] + ", k " + one[2];
            due(by + ", a DRAW below", after(one[1], one[0], one[2], seedWith(2, 1000, one[3] - 1)), 1);
            due(by + ", a DRAW as much", after(one[1], one[0], one[2], seedWith(2, 1000, one[3])), 0);
        }
        due("A 5, s 1, k 6 is 0: a DRAW of 0", after(1, 5, 6, seedWith(2, 1000, 0)), 0);
        due("A 0: a DRAW of 0", after(9, 0, 1, seedWith(2, 1000, 0)), 0);
        due("A 1: a DRAW of 0", after(1, 1, 1, seedWith(2, 1000, 0)), 1);
        due("A 999, s 9, k 8: above all DRAWS", after(9, 999, 8, seedWith(2, 1000, 999)), 1);
    }

    private static void oneNear(int q, int n, int... places) {
        for (int index = 0; index < places.length; index += Math.max(1, places.length - 1)) {
            ToadsBefore x = Check.land("rate 0;grow 0;after 999;days 1;near " + n + ";");
            x.shake(5, q, 9);
            x.seed(seedWith(3, places.length, index));
            due("run(1)", x.run(1), 1);
            isShake(x, 1, 6, places[index], 1);
        }
    }

    private static void cellsInOrder() {
        CHECK.sentence("a SHAKE at one of the CELLS (q, N), in order of PLACES, by a DRAW of how many they are");
        oneNear(27, 0, 27);
        oneNear(0, 1, 0, 1, 8, 9);
        oneNear(7, 1, 6, 7, 14, 15);
        oneNear(8, 1, 0, 1, 8, 9, 16, 17);
        oneNear(56, 1, 48, 49, 56, 57);
        oneNear(63, 1, 54, 55, 62, 63);
        oneNear(36, 1, 27, 28, 29, 35, 36, 37, 43, 44, 45);
        oneNear(3, 1, 2, 3, 4, 10, 11, 12);
        int[] all = new int[64];
        for (int p = 0; p < 64; p++) {
            all[p] = p;
        }
        oneNear(0, 7, all);
        oneNear(36, 7, all);
        oneNear(36, 4, all);
    }

    private static void sizes() {
        CHECK.sentence("its SIZE is 1 and one more for each DRAW of 100 below G, until one is not or it is 9");
        int[] met = new int[10];
        for (int v = 0; v < 500; v++) {
            int grow = v % 3 == 0 ? 99 : v % 3 == 1 ? 75 : 0;
            ToadsBefore x = Check.land("rate 999;grow " + grow + ";");
            x.seed(v * 4294967);
            Draws draws = new Draws(v * 4294967L);
            if (draws.of(1000) < 999) {
                x.run(1);
                int place = draws.of(64);
                int size = draws.size(grow);
                met[size]++;
                isShake(x, 0, 1, place, size);
                due("seed: no DRAW behind the ninth", x.seed(0), draws.seed());
            }
        }
        for (int size = 1; size <= 9; size++) {
            CHECK.holds("a SHAKE of SIZE " + size + " was met", met[size] > 0);
        }
        int v = seedWith(3, 100, 70);
        ToadsBefore x = Check.land("rate 999;grow 70;");
        x.seed(v);
        x.run(1);
        due("a DRAW as G is not below", x.about(0, 2), 1);
        ToadsBefore y = Check.land("rate 999;grow 71;");
        y.seed(v);
        y.run(1);
        CHECK.holds("a DRAW below G", y.about(0, 2) > 1);
    }

    private static void fullEndsARun() {
        CHECK.sentence("THE BOOK of 60 ends a RUN (on that DAY)");
        // By the SHAKE of the DAY: those behind it draw no more.
        ToadsBefore x = new ToadsBefore();
        for (int k = 0; k < 59; k++) {
            x.shake(7, k, 9);
        }
        Check.tell(x, "rate 999;grow 50;after 999;days 30;");
        x.seed(1);
        due("run(399)", x.run(399), 1);
        Draws draws = new Draws(1);
        draws.of(1000);
        isShake(x, 59, 8, draws.of(64), draws.size(50));
        due("count(4)", x.count(4), 8);
        due("seed", x.seed(0), draws.seed());
        // By one of those behind: the others draw no more.
        ToadsBefore y = Check.land(CERTAIN);
        for (int k = 0; k < 57; k++) {
            y.shake(7, k, 9);
        }
        y.seed(4);
        due("run(399)", y.run(399), 3);
        isShake(y, 59, 8, 2, 1);
        due("count(4)", y.count(4), 8);
        due("seed: one, and three for each of three", y.seed(0), Draws.seedBehind(4, 10));
        // On a later DAY of the RUN.
        ToadsBefore z = Check.land("rate 0;after 0;");
        for (int k = 0; k < 59; k++) {
            z.shake(7, k, 1);
        }
        z.run(20);
        due("count(4): 59 end no RUN", z.count(4), 27);
        Check.tell(z, "rate 0;grow 0;after 999;days 30;near 0;");
        int came = z.run(50);
        due("one came", came, 1);
        due("on the DAY that ended it", z.about(59, 0), z.count(4));
    }

    private static void fullRefusesARun() {
        CHECK.sentence("OUTSIDE, FULL: THE BOOK is (THE DAY stays)");
        ToadsBefore x = fullBook(9);
        x.seed(77);
        due("run(1)", x.run(1), FULL);
        due("run(399)", x.run(399), FULL);
        due("run(0)", x.run(0), OUTSIDE);
        due("run(400)", x.run(400), OUTSIDE);
        due("count(4)", x.count(4), 9);
        due("seed", x.seed(0), 77);
        ToadsBefore y = fullBook(399);
        due("run(1) on the last DAY", y.run(1), FULL);
    }

    private static void about() {
        CHECK.sentence("Of a SHAKE: what = 0 DAY, 1 PLACE, 2 SIZE. UNKNOWN, OUTSIDE");
        ToadsBefore x = new ToadsBefore();
        due("about(0, 0) of none", x.about(0, 0), UNKNOWN);
        x.shake(0, 0, 1);
        isShake(x, 0, 0, 0, 1);
        due("about(1, 0)", x.about(1, 0), UNKNOWN);
        due("about(-1, 0)", x.about(-1, 0), UNKNOWN);
        due("about(0, 3)", x.about(0, 3), OUTSIDE);
        due("about(0, -1)", x.about(0, -1), OUTSIDE);
        due("about(1, 3)", x.about(1, 3), UNKNOWN);
    }

    private static void count() {
        CHECK.sentence("How many: 0 SHAKES, 1 SIGNS, 2 CLAIMS, 3 WORDS, 4 THE DAY, 5 bytes of THE TEXT, 6 DAYS on which"
                + " it rained. OUTSIDE");
        ToadsBefore x = new ToadsBefore();
        for (int what = 0; what <= 6; what++) {
            due("count(" + what + ")", x.count(what), 0);
        }
        due("count(-1)", x.count(-1), OUTSIDE);
        due("count(7)", x.count(7), OUTSIDE);
        // It rained on a DAY or not, however often it is told.
        x.rain(0, true);
        x.rain(0, true);
        x.rain(399, true);
        due("count(6)", x.count(6), 2);
        x.rain(200, false);
        x.rain(0, false);
        x.rain(0, false);
        due("count(6)", x.count(6), 1);
    }

    private static void oddsAlone() {
        CHECK.sentence("a MILLION less NOT ONE; that is a MILLION at first; for each DAY from a to b: first times"
                + " (MILLION less MAIN) / MILLION");
        ToadsBefore x = Check.land("rate 0;");
        due("no RATE, no SHAKES", x.odds(0, 27, 7, 1, 1, 399), 0);
        Check.tell(x, "rate 500;");
        due("one DAY", x.odds(0, 27, 7, 1, 1, 1), 500000);
        due("two DAYS", x.odds(0, 27, 7, 1, 1, 2), 750000);
        due("three DAYS, ahead of 399", x.odds(396, 27, 7, 1, 397, 399), 875000);
        // 20 halves of a MILLION, each cut: 500000 .. 15625, 7812, 3906, 1953, 976, 488, 244, 122, 61, 30, 15, 7, 3, 1, 0.
        due("18 DAYS", x.odds(0, 27, 7, 1, 1, 18), 999997);
        due("19 DAYS", x.odds(0, 27, 7, 1, 1, 19), 999999);
        due("20 DAYS", x.odds(0, 27, 7, 1, 1, 20), 1000000);
        due("399 DAYS", x.odds(0, 27, 7, 1, 1, 399), 1000000);
        CHECK.sentence("MAIN: R times 1000 times CELLS (p, m) / 64 (cut), times GREATER (z) / MILLION (cut)");
        Check.tell(x, "rate 1;");
        due("1000 / 64", x.odds(0, 0, 0, 1, 1, 1), 15);
        due("4000 / 64", x.odds(0, 0, 1, 1, 1, 1), 62);
        due("6000 / 64", x.odds(0, 3, 1, 1, 1, 1), 93);
        due("all", x.odds(0, 0, 7, 1, 1, 1), 1000);
        due("15 times 400000 / MILLION", x.odds(0, 0, 0, 2, 1, 1), 6);
        due("62 times 160000 / MILLION", x.odds(0, 0, 1, 3, 1, 1), 9);
        due("1000 times 655 / MILLION", x.odds(0, 0, 7, 9, 1, 1), 0);
        Check.tell(x, "rate 1;grow 99;");
        due("15 times 990000 / MILLION, not 15.6 times", x.odds(0, 0, 0, 2, 1, 1), 14);
        Check.tell(x, "rate 999;grow 99;");
        due("the most", x.odds(0, 0, 7, 1, 1, 1), 999000);
        due("999000 times 922744 / MILLION", x.odds(0, 0, 7, 9, 1, 1), 921821);
    }

    /** By SHAKES alone: 400 of 1000 on the next DAY, 200 on the second, 133, 100, 80. */
    private static ToadsBefore shaken(int day) {
        ToadsBefore x = Check.land("rate 0;grow 50;after 100;days 5;near 1;");
        x.shake(day, 27, 4);
        return x;
    }

    private static void oddsOfDays() {
        CHECK.sentence("on a DAY from a to b");
        ToadsBefore x = shaken(10);
        due("11 to 11", x.odds(10, 27, 7, 1, 11, 11), 400000);
        due("12 to 12", x.odds(10, 27, 7, 1, 12, 12), 200000);
        due("11 to 12", x.odds(10, 27, 7, 1, 11, 12), 520000);
        due("13 to 13", x.odds(10, 27, 7, 1, 13, 13), 133000);
        due("11 to 13", x.odds(10, 27, 7, 1, 11, 13), 583840);
        due("15 to 399", x.odds(10, 27, 7, 1, 15, 399), 80000);
    }

    private static void oddsByShakesTillD() {
        CHECK.sentence("by SHAKES of THE BOOK on DAY d or earlier alone");
        ToadsBefore x = shaken(10);
        due("d is the DAY ahead", x.odds(9, 27, 7, 1, 11, 11), 0);
        due("d is its DAY", x.odds(10, 27, 7, 1, 11, 11), 400000);
        due("d is the DAY behind", x.odds(11, 27, 7, 1, 12, 12), 200000);
        due("d is far ahead, a to b goes by", x.odds(0, 27, 7, 1, 1, 399), 0);
        x.shake(11, 27, 4);
        due("d 10: the first alone", x.odds(10, 27, 7, 1, 12, 12), 200000);
        due("d 11: both", x.odds(11, 27, 7, 1, 12, 12), 520000);
        ToadsBefore y = shaken(0);
        due("a SHAKE of DAY 0, d 0", y.odds(0, 27, 7, 1, 1, 1), 400000);
    }

    private static void oddsBehindD() {
        CHECK.sentence("of a DAY e with DAY less e no more than D");
        ToadsBefore x = shaken(10);
        due("5 DAYS behind", x.odds(10, 27, 7, 1, 15, 15), 80000);
        due("6 DAYS behind", x.odds(10, 27, 7, 1, 16, 16), 0);
        due("from 5 to 6", x.odds(10, 27, 7, 1, 15, 16), 80000);
        Check.tell(x, "rate 0;after 100;days 1;");
        due("D 1, 1 DAY behind", x.odds(10, 27, 7, 1, 11, 11), 400000);
        due("D 1, 2 DAYS behind", x.odds(10, 27, 7, 1, 12, 12), 0);
        Check.tell(x, "rate 0;after 100;days 30;");
        due("D 30, 30 DAYS behind: 13 of 1000", x.odds(10, 27, 7, 1, 40, 40), 13000);
        due("D 30, 31 DAYS behind", x.odds(10, 27, 7, 1, 41, 41), 0);
    }

    private static void oddsOfAfter() {
        CHECK.sentence("AFTER of a SHAKE of SIZE s at q, k DAYS behind it: (A times s / k, 1000 at most) times 1000");
        ToadsBefore x = Check.land("rate 0;after 999;days 30;near 0;");
        x.shake(10, 27, 2);
        due("1998 of 1000", x.odds(10, 27, 0, 1, 11, 11), 1000000);
        due("999 of 1000", x.odds(10, 27, 0, 1, 12, 12), 999000);
        due("666 of 1000", x.odds(10, 27, 0, 1, 13, 13), 666000);
        due("1998 of 1000, of SIZE 2", x.odds(10, 27, 0, 2, 11, 11), 400000);
        Check.tell(x, "rate 0;after 500;days 30;near 0;");
        due("1000 of 1000", x.odds(10, 27, 0, 1, 11, 11), 1000000);
        due("500 of 1000", x.odds(10, 27, 0, 1, 12, 12), 500000);
        Check.tell(x, "rate 0;after 1;days 30;near 0;");
        due("2 / 2", x.odds(10, 27, 0, 1, 12, 12), 1000);
        due("2 / 3", x.odds(10, 27, 0, 1, 13, 13), 0);
        Check.tell(x, "rate 0;after 0;");
        due("A 0", x.odds(10, 27, 7, 1, 11, 11), 0);
    }

    private static void near(ToadsBefore x, int p, int m, int want) {
        due("odds at " + p + ", m " + m, x.odds(10, p, m, 1, 11, 11), want);
    }

    private static void oddsOfPlaces() {
        CHECK.sentence("times how many PLACES are N or less FAR from q and m or less FAR from p / CELLS (q, N) (cut)");
        ToadsBefore x = Check.land("rate 0;after 100;near 1;");
        x.shake(10, 0, 4);
        near(x, 0, 0, 100000);
        near(x, 0, 1, 400000);
        near(x, 2, 1, 200000);
        near(x, 16, 1, 200000);
        near(x, 18, 1, 100000);
        near(x, 19, 1, 0);
        near(x, 27, 2, 100000);
        near(x, 7, 1, 0);
        near(x, 63, 5, 0);
        near(x, 63, 6, 100000);
        near(x, 63, 7, 400000);
        ToadsBefore y = Check.land("rate 0;after 100;near 2;");
        y.shake(10, 35, 4);
        near(y, 10, 1, 48000);
        near(y, 33, 0, 16000);
        near(y, 17, 0, 16000);
        near(y, 54, 1, 32000);
        near(y, 35, 2, 400000);
        near(y, 35, 1, 144000);
        near(y, 38, 0, 0);
        near(y, 38, 1, 48000);
        near(y, 40, 1, 48000);
        ToadsBefore z = Check.land("rate 0;after 100;near 7;");
        z.shake(10, 35, 4);
        near(z, 0, 0, 6250);
        near(z, 63, 7, 400000);
    }

    private static void oddsCut() {
        CHECK.sentence("times (MILLION less AFTER) / MILLION; each cut");
        ToadsBefore x = Check.land("rate 1;grow 50;after 100;near 1;");
        x.shake(10, 27, 4);
        // 400000 / 9 is 44444; MAIN 15: 999985 times 955556 / MILLION is 955541.666.
        near(x, 27, 0, 1000000 - 955541);
        // 44444 times 3906 / MILLION is 173; MAIN 0.
        due("of SIZE 9", x.odds(10, 27, 0, 9, 11, 11), 173);
        x.shake(10, 27, 4);
        // 955541 times 955556 / MILLION is 913072.9.
        near(x, 27, 0, 1000000 - 913072);
        Check.tell(x, "rate 0;grow 99;after 100;near 1;");
        // 44444 times 990000 / MILLION is 43999.5, and 44444.4 times were 44000; then twice.
        due("of SIZE 2", x.odds(9, 27, 0, 2, 11, 11), 0);
        due("of SIZE 2", x.odds(10, 27, 0, 2, 11, 11), 1000000 - 913937);
        Check.tell(x, "rate 1;grow 50;after 100;near 1;");
        // The next DAY: times 999985 is 913058.3; then 22222 each: 892768.02, 872928.9.
        due("two DAYS", x.odds(10, 27, 0, 1, 11, 12), 1000000 - 872928);
    }

    private static void oddsBounds() {
        CHECK.sentence("UNKNOWN, OUTSIDE (d 0 .. 399; m; z; a more than d, b no less than a, to 399)");
        ToadsBefore x = Check.land("rate 500;");
        due("d 0, a 1", x.odds(0, 0, 7, 1, 1, 1), 500000);
        due("d 398, a 399", x.odds(398, 63, 7, 9, 399, 399), 327);
        due("m 0", x.odds(0, 0, 0, 1, 1, 1), 7812);
        due("d -1", x.odds(-1, 0, 7, 1, 1, 1), OUTSIDE);
        due("d -1, a 0", x.odds(-1, 0, 7, 1, 0, 0), OUTSIDE);
        due("d 399, a 399", x.odds(399, 0, 7, 1, 399, 399), OUTSIDE);
        due("d 399, a 400", x.odds(399, 0, 7, 1, 400, 400), OUTSIDE);
        due("d 400", x.odds(400, 0, 7, 1, 401, 401), OUTSIDE);
        due("a is d", x.odds(5, 0, 7, 1, 5, 9), OUTSIDE);
        due("a is d and 1", x.odds(5, 0, 7, 1, 6, 9), 937500);
        due("b is a less 1", x.odds(5, 0, 7, 1, 9, 8), OUTSIDE);
        due("b is a", x.odds(5, 0, 7, 1, 9, 9), 500000);
        due("b 400", x.odds(5, 0, 7, 1, 399, 400), OUTSIDE);
        due("m -1", x.odds(0, 0, -1, 1, 1, 1), OUTSIDE);
        due("m 8", x.odds(0, 0, 8, 1, 1, 1), OUTSIDE);
        due("z 0", x.odds(0, 0, 7, 0, 1, 1), OUTSIDE);
        due("z 10", x.odds(0, 0, 7, 10, 1, 1), OUTSIDE);
        due("p -1", x.odds(0, -1, 7, 1, 1, 1), UNKNOWN);
        due("p 64", x.odds(0, 64, 7, 1, 1, 1), UNKNOWN);
    }
}
