/** Promise by promise, with answers that were found by hand. Bounds of arguments: RefusalsTest; edges: the EdgesTests. */
public final class PromisesTest {
    private static final int NONE = Check.NONE, UNKNOWN = Check.UNKNOWN, OUTSIDE = Check.OUTSIDE, NOT = Check.NOT,
        FULL = Check.FULL, HUGE = Check.HUGE, TINY = Check.TINY;
    private static final Check CHECK = new Check("PromisesTest");

    private static int promise;

    private static void due(String call, long got, long want) {
        CHECK.due("promise " + promise + ", " + call, got, want);
    }

    public static void main(String[] args) {
        promise = 1;
        newObject();
        promise = 2;
        feed();
        promise = 3;
        law();
        promise = 4;
        fault();
        promise = 5;
        told();
        promise = 6;
        cells();
        promise = 7;
        greater();
        promise = 8;
        shake();
        promise = 9;
        seed();
        promise = 10;
        run();
        runBesideItsDraws();
        runAtItsLines();
        runAtTheEnds();
        promise = 11;
        about();
        promise = 12;
        count();
        promise = 13;
        odds();
        promise = 14;
        watch();
        promise = 15;
        rain();
        promise = 16;
        sign();
        promise = 17;
        omen();
        omenOwed();
        omenEven();
        promise = 18;
        rate();
        promise = 19;
        window();
        promise = 20;
        chance();
        promise = 21;
        table();
        promise = 22;
        story();
        promise = 23;
        claim();
        promise = 24;
        score();
        promise = 25;
        scores();
        promise = 26;
        town();
        promise = 27;
        bestLine();
        promise = 28;
        luck();
        promise = 29;
        lake();
        promise = 30;
        say();
        promise = 31;
        judged();
        promise = 32;
        keep();
        promise = 33;
        goBack();
        CHECK.finish();
    }

    private static void newObject() {
        ToadsBefore x = new ToadsBefore();
        int[] first = {20, 40, 100, 10, 1, NONE, NONE, 0};
        for (int what = 0; what < 8; what++) {
            due("told(" + what + ")", x.told(what), first[what]);
        }
        for (int what = 0; what < 7; what++) {
            due("count(" + what + ")", x.count(what), 0);
        }
        due("fault()", x.fault(), NONE);
        due("seed(0)", x.seed(0), 0);
        due("scores()", x.scores(), 0);
        due("about(0, 0)", x.about(0, 0), UNKNOWN);
        due("omen(0, 0)", x.omen(0, 0), UNKNOWN);
        due("score(0, 0)", x.score(0, 0), UNKNOWN);
        due("judged(0, 1, 1, 0)", x.judged(0, 1, 1, 0), UNKNOWN);
        for (int k = 0; k < 8; k++) {
            due("rate(" + k + ", 2)", x.rate(k, 2), 0);
        }
        due("goBack(0)", x.goBack(0), NOT);
        due("goBack(1)", x.goBack(1), NOT);
        due("NONE", ToadsBefore.NONE, NONE);
        due("UNKNOWN", ToadsBefore.UNKNOWN, UNKNOWN);
        due("OUTSIDE", ToadsBefore.OUTSIDE, OUTSIDE);
        due("NOT", ToadsBefore.NOT, NOT);
        due("FULL", ToadsBefore.FULL, FULL);
    }

    private static void feed() {
        ToadsBefore x = new ToadsBefore();
        due("feed(0, 1)", x.feed(0, 1), OUTSIDE);
        due("feed(9, 1)", x.feed(9, 1), OUTSIDE);
        due("feed(-1, 1)", x.feed(-1, 1), OUTSIDE);
        due("feed(huge, 1)", x.feed(HUGE, 1), OUTSIDE);
        due("feed(tiny, 1)", x.feed(TINY, 1), OUTSIDE);
        due("count(5)", x.count(5), 0);
        // The lowest three bytes alone, the highest of these first: "rat", then "e 7;".
        due("feed(3)", x.feed(3, 0x7FFFFFFFFF000000L | Check.packed("rat")), 3);
        due("feed(4)", x.feed(4, 0x8000000000000000L | Check.packed("e 7;")), 7);
        due("law()", x.law(), 1);
        due("told(0)", x.told(0), 7);
        for (int i = 1; i <= 19; i++) {
            due("feed(8)", x.feed(8, Check.packed("        ")), 8 * i);
        }
        due("feed(7)", x.feed(7, Check.packed("       ")), 159);
        due("feed(2)", x.feed(2, 0), FULL);
        due("feed(8)", x.feed(8, 0), FULL);
        due("feed(9) of a full text", x.feed(9, 0), OUTSIDE);
        due("feed(1)", x.feed(1, 32), 160);
        due("feed(1)", x.feed(1, 32), FULL);
        due("count(5)", x.count(5), 160);
        due("law() of blanks", x.law(), 0);
        due("count(5)", x.count(5), 0);
        due("feed(1)", x.feed(1, 32), 1);
    }

    private static void laws(String text, int want) {
        due("law() of '" + text + "'", Check.tell(new ToadsBefore(), text), want);
    }

    private static void law() {
        laws("", 0);
        laws("   ", 0);
        laws("rate 1;", 1);
        laws("rate1;grow2;after3;days4;near5;moon6to7;rain8;", 7);
        laws("rain8;moon 6 to 7;near5;days4;after3;grow2;rate1;", 7);
        laws("  rate  1  ;  grow  2  ;  moon  6  to  7  ;  ", 3);
        laws("rate 007;", 1);
        laws("rate 1; rate 1;", -13);
        laws("rate 1000;", -12);
        laws("rates 1;", -11);
        ToadsBefore x = new ToadsBefore();
        due("law()", Check.tell(x, "rate 9;moon 1 to 2;"), 2);
        due("law() with a FAULT", Check.tell(x, "grow 5;rate 8"), -11);
        due("told(0) as it was", x.told(0), 9);
        due("told(1) as it was", x.told(1), 40);
        due("told(5) as it was", x.told(5), 1);
        due("count(5) behind a FAULT", x.count(5), 0);
        due("law()", Check.tell(x, "grow 6;"), 1);
        due("told(0) as at first", x.told(0), 20);
        due("told(1)", x.told(1), 6);
        due("told(5) as at first", x.told(5), NONE);
        due("law() of nothing", x.law(), 0);
        due("told(1) as at first", x.told(1), 40);
        due("law()", Check.tell(x, "rate 5;"), 1);
        due("shake", x.shake(3, 4, 5), 0);
        due("law()", Check.tell(x, "rate 6;"), 1);
        due("count(0): a law leaves THE BOOK", x.count(0), 1);
    }

    private static void faults(String text, int number, int place) {
        ToadsBefore x = new ToadsBefore();
        due("law() of '" + text + "'", Check.tell(x, text), number == 0 ? x.law() : -10 - number);
        due("fault() of '" + text + "'", x.fault(), place);
    }

    private static void fault() {
        faults("rate", 1, 4);
        faults("rate ", 1, 5);
        faults("rate 5", 1, 6);
        faults("rate 5  ", 1, 8);
        faults("rat", 1, 0);
        faults("  rat 5;", 1, 2);
        faults("ra te 5;", 1, 0);
        faults("rategrow 5;", 1, 0);
        faults("raTe 5;", 1, 0);
        faults("rateX 5;", 1, 4);
        faults("ratez 5;", 1, 0);
        faults("arate 5;", 1, 0);
        faults("year 5;", 1, 0);
        faults("moan 5 to 6;", 1, 0);
        faults("moon 5 so 6;", 1, 7);
        faults("rate{5;", 1, 4);
        faults("rate`5;", 1, 4);
        faults("rate 5/", 1, 6);
        faults("rate 5:;", 1, 6);
        faults("rate x;", 1, 5);
        faults("rate to 5;", 1, 5);
        faults("rate 5 6;", 1, 7);
        faults("rate 5x;", 1, 6);
        faults("rate 5 grow;", 1, 7);
        faults("rate -5;", 1, 5);
        faults("rate ;", 1, 5);
        faults("rate 5;;", 1, 7);
        faults(";", 1, 0);
        faults("5;", 1, 0);
        faults("to 5;", 1, 0);
        faults("\t", 1, 0);
        faults("rate\0005;", 1, 4);
        faults("rate 5\u00ff;", 1, 6);
        faults("moon 5;", 1, 6);
        faults("moon 5 6;", 1, 7);
        faults("moon 5 too 6;", 1, 7);
        faults("moon 5 t o 6;", 1, 7);
        faults("moon 5 to;", 1, 9);
        faults("moon 5 to", 1, 9);
        faults("moon 5 to 6", 1, 11);
        faults("moonto 5;", 1, 0);
        faults("rate 1000;", 2, 5);
        faults("rate 0001;", 2, 5);
        faults("rate 00000000000000000001;", 2, 5);
        faults("rate 99999999999999999999;", 2, 5);
        faults("rate 1000x", 2, 5);
        faults("grow 100;", 2, 5);
        faults("after1000;", 2, 5);
        faults("days 0;", 2, 5);
        faults("days 31;", 2, 5);
        faults("near  8;", 2, 6);
        faults("moon 28 to 1;", 2, 5);
        faults("moon 1 to 28;", 2, 10);
        faults("rain 10;", 2, 5);
        faults("rate 5 1000;", 1, 7);
        faults("rate 1;grow 2;rate 1000;", 3, 14);
        faults("rate 1;rate", 3, 7);
        faults("moon 1 to 2; moon 1;", 3, 13);
        faults("rain 1;rain 2;", 3, 7);
        ToadsBefore x = new ToadsBefore();
        due("law()", Check.tell(x, "  rate 5,"), -11);
        due("fault()", x.fault(), 8);
        due("fault() again", x.fault(), 8);
        due("feed", x.feed(1, 32), 1);
        due("fault() of the latest law()", x.fault(), 8);
        due("law()", x.law(), 0);
        due("fault() behind a law without", x.fault(), NONE);
        String longest = " ".repeat(152) + "rate 10,";
        due("law() of 160 bytes", Check.tell(x, longest), -11);
        due("fault() at the last byte", x.fault(), 159);
        due("law() of 160 bytes, cut", Check.tell(x, " ".repeat(152) + "rate 100"), -11);
        due("fault() at the text's length", x.fault(), 160);
    }

    private static void told() {
        ToadsBefore x = new ToadsBefore();
        due("law()", Check.tell(x, "rate 999;grow 99;after 998;days 30;near 7;moon 27 to 0;rain 9;"), 7);
        int[] want = {999, 99, 998, 30, 7, 27, 0, 9};
        for (int what = 0; what < 8; what++) {
            due("told(" + what + ")", x.told(what), want[what]);
        }
        due("law()", Check.tell(x, "rate 0;grow 0;after 0;days 1;near 0;moon 0 to 27;rain 0;"), 7);
        int[] least = {0, 0, 0, 1, 0, 0, 27, 0};
        for (int what = 0; what < 8; what++) {
            due("told(" + what + ")", x.told(what), least[what]);
        }
        due("told(-1)", x.told(-1), OUTSIDE);
        due("told(8)", x.told(8), OUTSIDE);
        due("told(huge)", x.told(HUGE), OUTSIDE);
        due("told(tiny)", x.told(TINY), OUTSIDE);
    }

    private static void cells() {
        ToadsBefore x = new ToadsBefore();
        due("cells(0, 0)", x.cells(0, 0), 1);
        due("cells(0, 1)", x.cells(0, 1), 4);
        due("cells(7, 1)", x.cells(7, 1), 4);
        due("cells(8, 1)", x.cells(8, 1), 6);
        due("cells(9, 1)", x.cells(9, 1), 9);
        due("cells(15, 2)", x.cells(15, 2), 12);
        due("cells(56, 3)", x.cells(56, 3), 16);
        due("cells(0, 7)", x.cells(0, 7), 64);
        due("cells(36, 3)", x.cells(36, 3), 49);
        due("cells(36, 4)", x.cells(36, 4), 64);
        due("cells(36, 7)", x.cells(36, 7), 64);
        due("cells(63, 6)", x.cells(63, 6), 49);
    }

    private static void greater() {
        ToadsBefore x = new ToadsBefore();
        int[] want = {1000000, 400000, 160000, 64000, 25600, 10240, 4096, 1638, 655};
        for (int z = 1; z <= 9; z++) {
            due("greater(" + z + ")", x.greater(z), want[z - 1]);
        }
        due("law()", Check.tell(x, "grow 99;"), 1);
        due("greater(3)", x.greater(3), 980100);
        due("law()", Check.tell(x, "grow 0;"), 1);
        due("greater(1)", x.greater(1), 1000000);
        due("greater(2)", x.greater(2), 0);
    }

    private static void shake() {
        ToadsBefore x = new ToadsBefore();
        due("shake(0, 0, 1)", x.shake(0, 0, 1), 0);
        due("shake(5, 63, 9)", x.shake(5, 63, 9), 1);
        due("count(4)", x.count(4), 5);
        due("shake(5, 1, 1)", x.shake(5, 1, 1), 2);
        due("shake(4, 1, 1)", x.shake(4, 1, 1), NOT);
        due("shake(4, 64, 1)", x.shake(4, 64, 1), UNKNOWN);
        due("shake(-1, -1, 0)", x.shake(-1, -1, 0), UNKNOWN);
        due("shake(-1, 1, 1)", x.shake(-1, 1, 1), OUTSIDE);
        due("shake(400, 1, 1)", x.shake(400, 1, 1), OUTSIDE);
        due("shake(4, 1, 0)", x.shake(4, 1, 0), OUTSIDE);
        due("shake(4, 1, 10)", x.shake(4, 1, 10), OUTSIDE);
        due("count(0)", x.count(0), 3);
        due("count(4) is not changed", x.count(4), 5);
        for (int k = 3; k < 60; k++) {
            due("shake(6, 2, 2)", x.shake(6, 2, 2), k);
        }
        due("shake(6, 2, 2)", x.shake(6, 2, 2), FULL);
        due("shake(5, 2, 2)", x.shake(5, 2, 2), NOT);
        due("shake(399, 2, 2)", x.shake(399, 2, 2), FULL);
        due("count(4)", x.count(4), 6);
        due("about(59, 1)", x.about(59, 1), 2);
        ToadsBefore y = new ToadsBefore();
        due("run(9)", Check.tell(y, "rate 0;") + y.run(9), 1);
        due("shake(8, 0, 1) behind a RUN", y.shake(8, 0, 1), NOT);
        due("shake(399, 0, 1)", y.shake(399, 0, 1), 0);
    }

    private static void seed() {
        ToadsBefore x = new ToadsBefore();
        due("seed(5)", x.seed(5), 0);
        due("seed(huge)", x.seed(HUGE), 5);
        due("seed(-1)", x.seed(-1), OUTSIDE);
        due("seed(tiny)", x.seed(TINY), OUTSIDE);
        due("seed(0)", x.seed(0), HUGE);
        due("seed(0)", x.seed(0), 0);
    }

    private static void run() {
        ToadsBefore x = new ToadsBefore();
        // Never a SHAKE: one DRAW each DAY.
        Check.tell(x, "rate 0;");
        due("run(3)", x.run(3), 0);
        due("count(4)", x.count(4), 3);
        due("seed", x.seed(77), Draws.seedBehind(0, 3));
        // A SHAKE of an earlier DAY draws once a DAY, D DAYS long, also if A is 0.
        Check.tell(x, "rate 0;after 0;days 2;");
        due("shake(3, 9, 1)", x.shake(3, 9, 1), 0);
        due("run(5)", x.run(5), 0);
        due("seed", x.seed(77), Draws.seedBehind(77, 7));
        due("count(4)", x.count(4), 8);
        // After each SHAKE another on the next DAY: 1000 DRAWS below 999 times 9.
        ToadsBefore y = new ToadsBefore();
        Check.tell(y, "rate 0;grow 0;after 999;days 1;near 0;");
        due("shake(10, 33, 9)", y.shake(10, 33, 9), 0);
        due("run(1)", y.run(1), 1);
        due("about(1, 0)", y.about(1, 0), 11);
        due("about(1, 1): N is 0", y.about(1, 1), 33);
        due("about(1, 2): G is 0", y.about(1, 2), 1);
        // By hand: the main DRAW, that of the SHAKE, the PLACE, the SIZE.
        due("seed", y.seed(0), Draws.seedBehind(0, 4));
        placesAndSizes();
    }

    private static void placesAndSizes() {
        ToadsBefore x = new ToadsBefore();
        Check.tell(x, "rate 999;grow 99;after 0;days 1;");
        x.seed(12345);
        due("run(1)", x.run(1), 1);
        Draws draws = new Draws(12345);
        draws.of(1000);
        due("about(0, 1): the second DRAW", x.about(0, 1), draws.of(64));
        due("about(0, 2)", x.about(0, 2), draws.size(99));
        due("seed", x.seed(0), draws.seed());
        // The PLACE of one that follows: among nine PLACES around 27, in order.
        ToadsBefore y = new ToadsBefore();
        Check.tell(y, "rate 0;grow 0;after 999;days 1;near 1;");
        y.shake(0, 27, 9);
        y.seed(4711);
        due("run(1)", y.run(1), 1);
        int[] around = {18, 19, 20, 26, 27, 28, 34, 35, 36};
        due("about(1, 1)", y.about(1, 1), around[Draws.last(4711, 3, 9)]);
        // In a corner four PLACES remain.
        ToadsBefore z = new ToadsBefore();
        Check.tell(z, "rate 0;grow 0;after 999;days 1;near 1;");
        z.shake(0, 63, 9);
        z.seed(815);
        due("run(1)", z.run(1), 1);
        int[] corner = {54, 55, 62, 63};
        due("about(1, 1)", z.about(1, 1), corner[Draws.last(815, 3, 4)]);
    }

    /** For many seeds: the main SHAKE, its PLACE and SIZE, then one that follows two DAYS behind an older one. */
    private static void runBesideItsDraws() {
        for (int s = 0; s < 300; s++) {
            int v = s * 7158273;
            ToadsBefore x = new ToadsBefore();
            x.shake(1, 1, 2);
            x.seed(v);
            Check.tell(x, "rate 0;after 0;days 1;");
            x.run(1);
            Check.tell(x, "rate 500;grow 55;after 501;days 3;near 2;");
            int start = (int) Draws.seedBehind(v, 2);
            due("seed", x.seed(start), start);
            int came = x.run(1);
            Draws draws = new Draws(start);
            int want = 0;
            if (draws.of(1000) < 500) {
                want = 1;
                due("its PLACE", x.about(1, 1), draws.of(64));
                due("its SIZE", x.about(1, 2), draws.size(55));
            }
            // 501 times 2 / 2; around PLACE 1 by 2: four in each of three rows.
            if (draws.of(1000) < 501) {
                want++;
                int index = draws.of(12);
                due("the PLACE of one after", x.about(want, 1), index / 4 * 8 + index % 4);
                due("the SIZE of one after", x.about(want, 2), draws.size(55));
            }
            due("run(1) by seed " + v, came, want);
            due("seed", x.seed(0), draws.seed());
        }
    }

    private static int runOnce(String law, int v) {
        ToadsBefore x = new ToadsBefore();
        Check.tell(x, law);
        x.seed(v);
        return x.run(1);
    }

    private static int runBehind(String law, int v) {
        ToadsBefore x = new ToadsBefore();
        Check.tell(x, law);
        x.shake(0, 20, 1);
        x.seed(v);
        return x.run(1);
    }

    /** A DRAW must be below, and is not enough if it is the same. */
    private static void runAtItsLines() {
        for (int v = 1; v < 40; v++) {
            int first = Draws.last(v, 1, 1000);
            int second = Draws.last(v, 2, 1000);
            if (first > 0 && first < 998) {
                due("run(1), a DRAW as R", runOnce("rate " + first + ";", v), 0);
                due("run(1), a DRAW below R", runOnce("rate " + (first + 1) + ";", v), 1);
            }
            if (second < 998) {
                due("run(1), a DRAW as A", runBehind("rate 0;after " + second + ";", v), 0);
                due("run(1), a DRAW below A", runBehind("rate 0;after " + (second + 1) + ";", v), 1);
            }
            int third = Draws.last(v, 3, 100);
            if (first < 999 && third < 99) {
                ToadsBefore x = new ToadsBefore();
                Check.tell(x, "rate 999;grow " + third + ";");
                x.seed(v);
                x.run(1);
                due("about(0, 2), a DRAW as G", x.about(0, 2), 1);
            }
        }
    }

    private static void runAtTheEnds() {
        ToadsBefore x = new ToadsBefore();
        Check.tell(x, "rate 0;");
        due("run(0)", x.run(0), OUTSIDE);
        due("run(400)", x.run(400), OUTSIDE);
        due("run(-1)", x.run(-1), OUTSIDE);
        due("run(huge)", x.run(HUGE), OUTSIDE);
        due("count(4)", x.count(4), 0);
        due("run(398)", x.run(398), 0);
        due("run(399), to 399 at most", x.run(399), 0);
        due("count(4)", x.count(4), 399);
        due("seed", x.seed(0), Draws.seedBehind(0, 399));
        due("run(1) on the last DAY", x.run(1), 0);
        due("seed", x.seed(0), 0);
        // THE BOOK of 60 ends a RUN on that DAY, at once.
        ToadsBefore y = new ToadsBefore();
        Check.tell(y, "rate 0;grow 0;after 999;days 1;near 0;");
        for (int k = 0; k < 58; k++) {
            y.shake(7, 0, 9);
        }
        due("run(9)", y.run(9), 2);
        due("count(0)", y.count(0), 60);
        due("count(4)", y.count(4), 8);
        due("seed: one DRAW, then three for each of two", y.seed(1), Draws.seedBehind(0, 7));
        due("run(9)", y.run(9), FULL);
        due("run(0)", y.run(0), OUTSIDE);
        due("count(4) stays", y.count(4), 8);
        due("seed stays", y.seed(1), 1);
    }

    private static void about() {
        ToadsBefore x = new ToadsBefore();
        x.shake(3, 44, 5);
        x.shake(4, 45, 6);
        due("about(0, 0)", x.about(0, 0), 3);
        due("about(0, 1)", x.about(0, 1), 44);
        due("about(0, 2)", x.about(0, 2), 5);
        due("about(1, 0)", x.about(1, 0), 4);
        due("about(1, 1)", x.about(1, 1), 45);
        due("about(1, 2)", x.about(1, 2), 6);
        due("about(1, 3)", x.about(1, 3), OUTSIDE);
        due("about(1, -1)", x.about(1, -1), OUTSIDE);
        due("about(2, 0)", x.about(2, 0), UNKNOWN);
        due("about(2, 3)", x.about(2, 3), UNKNOWN);
        due("about(-1, 0)", x.about(-1, 0), UNKNOWN);
        due("about(huge, 0)", x.about(HUGE, 0), UNKNOWN);
    }

    private static void count() {
        ToadsBefore x = new ToadsBefore();
        x.shake(9, 1, 1);
        x.sign(0, 1, 1, 1);
        x.sign(0, 1, 1, 1);
        x.claim(0, 1, 1, 1, 1, 1, 1);
        x.claim(0, 1, 1, 1, 1, 1, 1);
        x.claim(0, 1, 1, 1, 1, 1, 1);
        x.say(0, 1, 1);
        x.say(0, 1, 1);
        x.say(0, 1, 1);
        x.say(0, 1, 1);
        x.feed(5, 0);
        x.rain(0, true);
        x.rain(399, true);
        x.rain(399, true);
        x.rain(7, false);
        int[] want = {1, 2, 3, 4, 9, 5, 2};
        for (int what = 0; what < 7; what++) {
            due("count(" + what + ")", x.count(what), want[what]);
        }
        due("count(-1)", x.count(-1), OUTSIDE);
        due("count(7)", x.count(7), OUTSIDE);
        due("count(huge)", x.count(HUGE), OUTSIDE);
    }

    private static void odds() {
        ToadsBefore x = new ToadsBefore();
        // MAIN for all the land: 20 times 1000; two DAYS: 1000000 - 980000 * 980000 / 1000000.
        due("odds of one DAY", x.odds(0, 27, 7, 1, 1, 1), 20000);
        due("odds of two DAYS", x.odds(0, 27, 7, 1, 1, 2), 39600);
        due("odds of a corner: 20000 * 4 / 64", x.odds(0, 0, 1, 1, 1, 1), 1250);
        due("odds of SIZE 2: 1250 * 400000 / 1000000", x.odds(0, 0, 1, 2, 1, 1), 500);
        due("odds of SIZE 9: 312 * 655 / 1000000", x.odds(0, 0, 0, 9, 1, 1), 0);
        due("shake(10, 27, 5)", x.shake(10, 27, 5), 0);
        // AFTER one DAY: 100 * 5 / 1 = 500 of 1000, all nine PLACES; 980000 * 500000 / 1000000.
        due("odds the DAY behind", x.odds(10, 27, 7, 1, 11, 11), 510000);
        due("odds ahead of it", x.odds(9, 27, 7, 1, 11, 11), 20000);
        due("odds 3 DAYS behind: 166 of 1000", x.odds(10, 27, 7, 1, 13, 13), 1000000 - 980000 * 834 / 1000);
        due("odds 10 DAYS behind: 50 of 1000", x.odds(10, 27, 7, 1, 20, 20), 1000000 - 980000 * 950 / 1000);
        due("odds 11 DAYS behind", x.odds(10, 27, 7, 1, 21, 21), 20000);
        // Six of nine PLACES are 1 or less FAR from 27 and from 28: 500000 * 6 / 9 is cut to 333333; MAIN is 2812.
        due("odds beside it", x.odds(10, 28, 1, 1, 11, 11), 1000000 - (int) (997188L * 666667 / 1000000));
        due("odds far off", x.odds(10, 63, 1, 1, 11, 11), 1250);
        due("shake(10, 27, 9)", x.shake(10, 27, 9), 1);
        // One after the other, each cut: 500000, then 900000 of a MILLION.
        due("odds of both", x.odds(10, 27, 7, 1, 11, 11), 1000000 - 49000);
        Check.tell(x, "rate 0;after 999;");
        due("AFTER is 1000 at most", x.odds(10, 27, 7, 1, 14, 14), 1000000);
        due("and its share by SIZE", x.odds(10, 27, 7, 2, 11, 11), 640000);
        Check.tell(x, "rate 999;grow 99;");
        due("odds(398, .., 399, 399)", x.odds(398, 0, 7, 1, 399, 399), 999000);
    }

    private static void watch() {
        ToadsBefore x = new ToadsBefore();
        due("watch(0, 1, 0, 399)", x.watch(0, 1, 0, 399), 0);
        due("watch(0, 2, 7, 7)", x.watch(0, 2, 7, 7), 400);
        due("watch(7, 2, 7, 8)", x.watch(7, 2, 7, 8), 0);
        due("watch(0, 2, NONE, tiny)", x.watch(0, 2, NONE, TINY), 1);
        due("rate(0, 2)", x.rate(0, 2), 0);
        due("watch(0, 2, 1, 2)", x.watch(0, 2, 1, 2), 0);
        due("watch(8, 2, 1, 2)", x.watch(8, 2, 1, 2), UNKNOWN);
        due("watch(-1, 2, 1, 2)", x.watch(-1, 2, 1, 2), UNKNOWN);
        due("watch(0, 64, 2, 1)", x.watch(0, 64, 2, 1), UNKNOWN);
        due("watch(0, -1, NONE, 1)", x.watch(0, -1, NONE, 1), UNKNOWN);
        due("watch(0, 3, 2, 1)", x.watch(0, 3, 2, 1), OUTSIDE);
        due("watch(0, 3, -2, 1)", x.watch(0, 3, -2, 1), OUTSIDE);
        due("watch(0, 3, 399, 400)", x.watch(0, 3, 399, 400), OUTSIDE);
        due("watch(0, 3, 400, 400)", x.watch(0, 3, 400, 400), OUTSIDE);
        x.sign(0, 1, 2, 1);
        due("what is refused changes nothing", x.omen(0, 5), 1);
        due("rate(0, 2)", x.rate(0, 2), 2);
        due("watch(0, 3, 1, 2)", x.watch(0, 3, 1, 2), 2);
        due("omen(0, 5) elsewhere", x.omen(0, 5), 0);
    }

    private static void rain() {
        ToadsBefore x = new ToadsBefore();
        due("rain(0, true)", x.rain(0, true), 0);
        due("rain(0, true)", x.rain(0, true), 1);
        due("rain(0, false)", x.rain(0, false), 1);
        due("rain(0, false)", x.rain(0, false), 0);
        due("rain(399, true)", x.rain(399, true), 0);
        due("rain(400, true)", x.rain(400, true), OUTSIDE);
        due("rain(-1, true)", x.rain(-1, true), OUTSIDE);
        due("rain(huge, false)", x.rain(HUGE, false), OUTSIDE);
        due("count(6)", x.count(6), 1);
    }

    private static void sign() {
        ToadsBefore x = new ToadsBefore();
        due("sign(0, 0, 0, 0)", x.sign(0, 0, 0, 0), 0);
        due("sign(7, 399, 63, 399)", x.sign(7, 399, 63, 399), 1);
        due("sign(8, 0, 0, 0)", x.sign(8, 0, 0, 0), UNKNOWN);
        due("sign(-1, 0, 0, -1)", x.sign(-1, 0, 0, -1), UNKNOWN);
        due("sign(0, 0, 64, 0)", x.sign(0, 0, 64, 0), UNKNOWN);
        due("sign(0, 400, -1, 0)", x.sign(0, 400, -1, 0), UNKNOWN);
        due("sign(0, -1, 0, 0)", x.sign(0, -1, 0, 0), OUTSIDE);
        due("sign(0, 400, 0, 400)", x.sign(0, 400, 0, 400), OUTSIDE);
        due("sign(0, 5, 0, 4)", x.sign(0, 5, 0, 4), OUTSIDE);
        due("sign(0, 5, 0, 400)", x.sign(0, 5, 0, 400), OUTSIDE);
        due("count(1)", x.count(1), 2);
        for (int i = 2; i < 100; i++) {
            due("sign(1, 5, 2, 399)", x.sign(1, 5, 2, 399), i);
        }
        due("sign(1, 5, 2, 5)", x.sign(1, 5, 2, 5), FULL);
        due("sign(1, 5, 2, 4)", x.sign(1, 5, 2, 4), OUTSIDE);
        due("count(1)", x.count(1), 100);
        due("omen(99, 3)", x.omen(99, 3), 399);
    }

    private static void omen() {
        ToadsBefore x = new ToadsBefore();
        x.sign(3, 20, 41, 22);
        x.sign(4, 30, 42, 30);
        int[] want = {3, 20, 41, 22, 0, 0};
        for (int what = 0; what < 6; what++) {
            due("omen(0, " + what + ")", x.omen(0, what), want[what]);
        }
        due("omen(1, 0)", x.omen(1, 0), 4);
        due("omen(1, 3)", x.omen(1, 3), 30);
        due("omen(1, 6)", x.omen(1, 6), OUTSIDE);
        due("omen(1, -1)", x.omen(1, -1), OUTSIDE);
        due("omen(2, 6)", x.omen(2, 6), UNKNOWN);
        due("omen(-1, 0)", x.omen(-1, 0), UNKNOWN);
        due("omen(huge, 0)", x.omen(HUGE, 0), UNKNOWN);
    }

    private static void owed(ToadsBefore x, String law, int... want) {
        Check.tell(x, law);
        for (int i = 0; i < want.length; i++) {
            due("omen(" + i + ", 4) by '" + law + "'", x.omen(i, 4), want[i]);
        }
    }

    private static void omenOwed() {
        ToadsBefore x = new ToadsBefore();
        int[] days = {0, 5, 27, 28, 33, 55, 34};
        for (int d : days) {
            x.sign(0, d, 0, d);
        }
        owed(x, "", 0, 0, 0, 0, 0, 0, 0);
        owed(x, "moon 0 to 0;", 1, 0, 0, 1, 0, 0, 0);
        owed(x, "moon 5 to 6;", 0, 1, 0, 0, 1, 0, 1);
        owed(x, "moon 27 to 27;", 0, 0, 1, 0, 0, 1, 0);
        owed(x, "moon 27 to 5;", 1, 1, 1, 1, 1, 1, 0);
        owed(x, "moon 6 to 5;", 1, 1, 1, 1, 1, 1, 1);
        owed(x, "moon 6 to 4;", 1, 0, 1, 1, 0, 1, 1);
        x.rain(3, true);
        owed(x, "", 0, 0, 0, 0, 0, 0, 0);
        owed(x, "rain 2;", 0, 0, 0, 0, 0, 0, 0);
        owed(x, "rain 3;", 0, 2, 0, 0, 0, 0, 0);
        x.rain(28, true);
        owed(x, "rain 1;", 0, 0, 0, 2, 0, 0, 0);
        owed(x, "rain 6;", 0, 2, 0, 2, 2, 0, 0);
        owed(x, "rain 9;", 0, 2, 0, 2, 2, 0, 2);
        owed(x, "rain 9;moon 5 to 5;", 0, 1, 0, 2, 1, 0, 2);
        x.rain(28, false);
        owed(x, "rain 9;", 0, 2, 0, 0, 0, 0, 0);
    }

    private static void omenEven() {
        ToadsBefore x = new ToadsBefore();
        x.watch(2, 30, 10, 20);
        x.sign(2, 10, 30, 10);
        x.sign(2, 20, 30, 20);
        x.sign(2, 9, 30, 9);
        x.sign(2, 21, 30, 21);
        x.sign(2, 15, 31, 15);
        x.sign(2, 15, 30, 16);
        x.sign(3, 15, 30, 15);
        int[] want = {1, 1, 0, 0, 0, 0, 0};
        for (int i = 0; i < 7; i++) {
            due("omen(" + i + ", 5)", x.omen(i, 5), want[i]);
        }
        x.rain(10, true);
        due("W is 0", x.omen(0, 5), 1);
        Check.tell(x, "rain 1;moon 20 to 20;");
        due("owed to RAIN", x.omen(0, 5), 0);
        due("owed to the MOON", x.omen(1, 5), 0);
        Check.tell(x, "");
        due("owed to nothing again", x.omen(1, 5), 1);
    }

    private static void rate() {
        ToadsBefore x = new ToadsBefore();
        due("rate(0, 0)", x.rate(0, 0), NOT);
        due("rate(0, 1)", x.rate(0, 1), 0);
        due("rate(0, 2)", x.rate(0, 2), 0);
        x.watch(0, 5, 1, 3);
        due("rate(0, 0)", x.rate(0, 0), 0);
        x.sign(0, 1, 5, 1);
        x.sign(0, 1, 5, 1);
        due("rate(0, 0): a DAY counts once", x.rate(0, 0), 333333);
        x.sign(0, 3, 5, 3);
        due("rate(0, 0)", x.rate(0, 0), 666666);
        due("rate(0, 1)", x.rate(0, 1), 2);
        due("rate(0, 2)", x.rate(0, 2), 3);
        x.watch(1, 5, 1, 3);
        due("rate(1, 1)", x.rate(1, 1), 0);
        due("rate(0, 3)", x.rate(0, 3), OUTSIDE);
        due("rate(2, -1)", x.rate(2, -1), OUTSIDE);
        due("rate(8, 3)", x.rate(8, 3), UNKNOWN);
        due("rate(-1, 0)", x.rate(-1, 0), UNKNOWN);
        x.watch(0, 5, -1, 3);
        due("rate(0, 0)", x.rate(0, 0), NOT);
        due("rate(0, 1)", x.rate(0, 1), 0);
        x.watch(0, 5, 1, 1);
        due("rate(0, 0)", x.rate(0, 0), 1000000);
        x.watch(3, 5, 0, 3);
        x.sign(3, 0, 5, 0);
        due("rate(3, 0)", x.rate(3, 0), 250000);
        x.watch(3, 6, 0, 3);
        due("rate(3, 0) elsewhere", x.rate(3, 0), 0);
    }

    private static void window() {
        ToadsBefore x = new ToadsBefore();
        x.shake(70, 27, 1);
        x.sign(0, 69, 27, 69);
        x.sign(0, 70, 27, 70);
        x.sign(0, 71, 27, 71);
        x.sign(1, 69, 27, 399);
        x.sign(2, 65, 29, 65);
        x.sign(7, 10, 27, 10);
        x.sign(6, 9, 27, 9);
        due("window(0, 1, 0, 255)", x.window(0, 1, 0, 255), 2);
        due("window(0, 1, 0, 1)", x.window(0, 1, 0, 1), 1);
        due("window(0, 1, 0, 2): FOUND AFTER too", x.window(0, 1, 0, 2), 1);
        due("window(0, 1, 0, 0)", x.window(0, 1, 0, 0), 0);
        due("window(0, 4, 7, 255)", x.window(0, 4, 7, 255), 2);
        due("window(0, 5, 2, 255)", x.window(0, 5, 2, 255), 3);
        due("window(0, 5, 1, 255)", x.window(0, 5, 1, 255), 2);
        due("window(0, 60, 7, 255)", x.window(0, 60, 7, 255), 4);
        due("window(0, 60, 7, 64)", x.window(0, 60, 7, 64), 0);
        due("window(0, 59, 7, 128)", x.window(0, 59, 7, 128), 0);
        ToadsBefore y = new ToadsBefore();
        y.shake(0, 0, 1);
        y.sign(0, 0, 0, 0);
        due("window of the first DAY", y.window(0, 60, 7, 255), 0);
    }

    private static void chance() {
        ToadsBefore x = new ToadsBefore();
        due("chance(1, 0)", x.chance(1, 0), 0);
        due("chance(1, 1)", x.chance(1, 1), NOT);
        x.watch(0, 5, 0, 2);
        x.sign(0, 1, 5, 1);
        due("chance(1, 1)", x.chance(1, 1), 333333);
        // 666667 * 666667 / 1000000 is 444444, times 666667 again 296296.
        due("chance(2, 1)", x.chance(2, 1), 555556);
        due("chance(3, 1)", x.chance(3, 1), 703704);
        due("chance(1, 3)", x.chance(1, 3), NOT);
        x.watch(1, 5, 0, 3);
        x.sign(1, 3, 5, 3);
        due("chance(1, 3): 666667 * 750000 / 1000000 is 500000", x.chance(1, 3), 500000);
        due("chance(1, 2)", x.chance(1, 2), 250000);
        x.watch(7, 9, 0, 0);
        x.sign(7, 0, 9, 0);
        due("chance(1, 128)", x.chance(1, 128), 1000000);
        due("chance(60, 131)", x.chance(60, 131), 1000000);
        due("chance(60, 255)", x.chance(60, 255), NOT);
    }

    private static void tables(ToadsBefore x, int w, int m, int z, int... want) {
        for (int i = 0; i < 5; i++) {
            due("table(0, " + w + ", " + m + ", " + z + ", " + i + ")", x.table(0, w, m, z, i), want[i]);
        }
    }

    private static void table() {
        ToadsBefore x = new ToadsBefore();
        x.watch(0, 27, 10, 20);
        x.sign(0, 10, 27, 10);
        x.sign(0, 12, 27, 12);
        x.sign(0, 12, 27, 12);
        x.sign(0, 17, 27, 17);
        x.sign(0, 19, 27, 19);
        x.shake(12, 27, 3);
        x.shake(16, 28, 1);
        x.shake(20, 29, 9);
        // w 2: DAYS 10 .. 18; ahead of the SHAKE of 12: 10, 11; of 16: 14, 15; of 20: 18.
        tables(x, 2, 0, 1, 1, 2, 1, 5, 333 - 166);
        tables(x, 2, 1, 1, 1, 2, 3, 3, 333 - 500);
        tables(x, 2, 2, 1, 1, 2, 4, 2, 333 - 666);
        tables(x, 2, 2, 4, 0, 3, 1, 5, -166);
        tables(x, 10, 7, 1, 1, 0, 0, 0, 1000);
        tables(x, 1, 7, 9, 1, 3, 0, 6, 250);
        due("table(0, 11, 7, 1, 0)", x.table(0, 11, 7, 1, 0), NOT);
        x.watch(0, 27, 0, 399);
        due("the last DAYS have no DAYS behind them", x.table(0, 60, 7, 1, 3), 340 - 20);
        due("a SHAKE on its DAY is not behind it", x.table(0, 1, 0, 3, 0), 0);
        ToadsBefore y = new ToadsBefore();
        y.watch(0, 27, 0, 1);
        y.shake(1, 28, 1);
        tables(y, 1, 1, 1, 0, 0, 1, 0, -1000);
        tables(y, 1, 0, 1, 0, 0, 0, 1, 0);
        x.watch(0, 30, 100, 110);
        tables(x, 5, 7, 1, 0, 0, 0, 6, 0);
    }

    private static void story() {
        ToadsBefore x = new ToadsBefore();
        due("story(0, 1, 0)", x.story(0, 1, 0), NOT);
        x.watch(0, 1, 0, 99);
        due("story(0, 1, 0)", x.story(0, 1, 0), NOT);
        due("story(1, 0, 0)", x.story(1, 0, 0), NOT);
        x.watch(1, 2, 10, 50);
        x.sign(0, 9, 1, 9);
        x.sign(0, 10, 1, 10);
        x.sign(0, 20, 1, 20);
        x.sign(0, 50, 1, 50);
        x.sign(0, 51, 1, 51);
        x.sign(1, 22, 2, 22);
        due("story(0, 1, 0): 10, 20, 50", x.story(0, 1, 0), 3);
        due("story(0, 1, 1): 10, 20", x.story(0, 1, 1), 2);
        due("story(0, 1, 2): 10", x.story(0, 1, 2), 1);
        due("story(0, 1, 12)", x.story(0, 1, 12), 0);
        due("story(0, 1, 60)", x.story(0, 1, 60), 0);
        due("story(1, 0, 0)", x.story(1, 0, 0), 1);
        due("story(1, 0, 27)", x.story(1, 0, 27), 1);
        due("story(1, 0, 28)", x.story(1, 0, 28), 0);
        due("story(0, 0, 5)", x.story(0, 0, 5), 0);
        x.sign(1, 10, 2, 10);
        due("story(0, 1, 1): ODD on the DAY itself", x.story(0, 1, 1), 1);
        x.watch(1, 2, -1, 0);
        due("story(0, 1, 0)", x.story(0, 1, 0), NOT);
    }

    private static void claim() {
        ToadsBefore x = new ToadsBefore();
        due("claim", x.claim(0, 0, 0, 1, 1, 1, 0), 0);
        due("claim", x.claim(398, 63, 7, 9, 399, 399, 100), 1);
        due("count(2)", x.count(2), 2);
        for (int c = 2; c < 12; c++) {
            due("claim", x.claim(0, 0, 0, 1, 1, 1, 0), c);
        }
        due("claim", x.claim(0, 0, 0, 1, 1, 1, 0), FULL);
        due("count(2)", x.count(2), 12);
    }

    private static void score() {
        ToadsBefore x = new ToadsBefore();
        x.claim(5, 27, 1, 3, 10, 20, 70);
        due("not HIT yet", x.score(0, 0), NONE);
        due("ALONE", x.score(0, 1), x.odds(5, 27, 1, 3, 10, 20) / 10000);
        due("SCORE without a HIT: 0 less 70 squared", x.score(0, 2), -4900);
        x.shake(9, 27, 9);
        x.shake(10, 29, 9);
        x.shake(10, 28, 2);
        due("ahead, too FAR, too small", x.score(0, 0), NONE);
        x.shake(20, 28, 3);
        x.shake(20, 27, 9);
        x.shake(21, 27, 9);
        due("the first such SHAKE", x.score(0, 0), 3);
        due("ALONE knows nothing behind t", x.score(0, 1), 0);
        due("SCORE: 100 squared less 30 squared", x.score(0, 2), 9100);
        x.claim(21, 27, 1, 1, 22, 22, 10);
        due("not HIT", x.score(1, 0), NONE);
        int alone = x.odds(21, 27, 1, 1, 22, 22) / 10000;
        due("ALONE", x.score(1, 1), alone);
        due("SCORE", x.score(1, 2), alone * alone - 100);
        due("ALONE is far above 0", alone > 50 ? 1 : 0, 1);
        x.claim(8, 27, 0, 1, 9, 9, 0);
        due("HIT on its first and last DAY", x.score(2, 0), 0);
        due("SCORE", x.score(2, 2), 0);
        Check.tell(x, "rate 999;");
        due("ALONE by THE LAW as it is now", x.score(2, 1), 1);
        ToadsBefore y = new ToadsBefore();
        y.claim(0, 27, 7, 1, 1, 1, 0);
        due("ALONE: 20000 / 10000", y.score(0, 1), 2);
        Check.tell(y, "rate 999;");
        y.claim(0, 27, 7, 1, 1, 2, 0);
        due("ALONE: 999999 / 10000", y.score(1, 1), 99);
    }

    private static void scores() {
        ToadsBefore x = new ToadsBefore();
        due("scores()", x.scores(), 0);
        x.claim(0, 0, 0, 9, 1, 1, 100);
        due("scores()", x.scores(), -10000);
        x.claim(0, 0, 0, 9, 1, 1, 3);
        due("scores()", x.scores(), -10009);
        x.shake(1, 0, 9);
        due("scores(): HIT, 100 squared, and that less 97 squared", x.scores(), 10000 + 10000 - 9409);
        for (int c = 2; c < 12; c++) {
            x.claim(0, 0, 0, 9, 2, 2, 10);
        }
        due("scores() of twelve", x.scores(), 10591 - 1000);
    }

    private static void towns(ToadsBefore x, int z, int line, int a, int b, int... want) {
        for (int what = 0; what < 4; what++) {
            due("town(27, " + z + ", 7, 100, " + line + ", " + a + ", " + b + ", " + what + ")",
                    x.town(27, z, 7, 100, line, a, b, what), want[what]);
        }
    }

    private static void town() {
        ToadsBefore x = new ToadsBefore();
        x.shake(5, 27, 2);
        x.shake(6, 28, 3);
        x.shake(6, 36, 1);
        x.shake(6, 29, 9);
        x.shake(9, 18, 1);
        // By the law alone a DAY's ODDS are 2812.
        towns(x, 1, 0, 1, 10, 10, 7, 0, 70);
        towns(x, 1, 1000001, 1, 10, 0, 0, 4, 400);
        towns(x, 1, 2812, 1, 5, 5, 4, 0, 35);
        towns(x, 1, 2813, 1, 5, 0, 0, 1, 100);
        towns(x, 1, 2813, 1, 6, 1, 0, 1, 107);
        towns(x, 1, 2813, 5, 5, 0, 0, 1, 100);
        towns(x, 1, 2813, 6, 6, 1, 0, 0, 7);
        towns(x, 3, 1000001, 1, 399, 0, 0, 1, 100);
        towns(x, 9, 0, 1, 399, 399, 399, 0, 2793);
        int sixth = x.odds(5, 27, 1, 1, 6, 6);
        towns(x, 1, sixth, 6, 6, 1, 0, 0, 7);
        towns(x, 1, sixth + 1, 6, 6, 0, 0, 2, 200);
    }

    private static void bestLine() {
        ToadsBefore x = new ToadsBefore();
        // No SHAKE and no reason to leave: the least LINE above all ODDS; 2812 is below 3000.
        due("bestLine without SHAKES", x.bestLine(27, 1, 5, 100, 1, 50), 3000);
        due("the least of like ones: 1250", x.bestLine(0, 1, 5, 100, 1, 50), 2000);
        Check.tell(x, "rate 0;");
        due("ODDS of 0 are 0 or more", x.bestLine(27, 1, 5, 100, 1, 50), 1000);
        x.shake(5, 27, 1);
        due("leaving each DAY costs 10, the SHAKE 11", x.bestLine(27, 1, 1, 11, 1, 10), 0);
        due("leaving costs as much: the least LINE", x.bestLine(27, 1, 1, 10, 1, 10), 0);
        due("leaving costs more, but at 1000 nine DAYS of ten lie far from SHAKES", x.bestLine(27, 1, 20, 10, 1, 5), 1000);
        // Each DAY behind the SHAKE has ODDS above 50000: only a MILLION and one keeps the TOWN from leaving in vain.
        Check.tell(x, "rate 0;after 999;");
        due("a MILLION and one", x.bestLine(27, 1, 20, 10, 6, 15), 1000001);
    }

    private static void luck() {
        ToadsBefore x = new ToadsBefore();
        due("luck(1, 500, 1)", x.luck(1, 500, 1), 500000);
        due("luck(2, 500, 1)", x.luck(2, 500, 1), 750000);
        due("luck(2, 500, 2)", x.luck(2, 500, 2), 250000);
        due("luck(3, 1, 1): 997002, 2994 and 2 and 0, each cut", x.luck(3, 1, 1), 2996);
        due("luck(3, 1, 0)", x.luck(3, 1, 0), 999998);
        due("luck(200, 1000, 200)", x.luck(200, 1000, 200), 1000000);
        due("luck(200, 0, 0)", x.luck(200, 0, 0), 1000000);
        due("luck(200, 0, 1)", x.luck(200, 0, 1), 0);
        due("luck(5, 1000, 5)", x.luck(5, 1000, 5), 1000000);
    }

    private static void lakes(ToadsBefore x, int r, int t, int most, int least, int... want) {
        for (int what = 0; what < 2; what++) {
            due("lake(" + r + ", " + t + ", " + most + ", " + least + ", " + what + ")",
                    x.lake(r, t, most, least, what), want[what]);
        }
    }

    private static void lake() {
        ToadsBefore x = new ToadsBefore();
        lakes(x, 0, 1000, 0, 1000000, 1, 1);
        lakes(x, 0, 1000, 1000000, 1000000, 1, 0);
        lakes(x, 0, 0, 0, 0, 1, 1);
        // LUCK (n, 500, n) is 1000000 / 2 to the n: 250000 for two; t is always right.
        lakes(x, 500, 1000, 250000, 1000000, 2, 2);
        lakes(x, 500, 1000, 249999, 1000000, 3, 3);
        lakes(x, 500, 1000, 500000, 1000000, 1, 1);
        lakes(x, 1000, 1000, 999999, 1, NONE, NONE);
        lakes(x, 100, 500, 50000, 900000, 12, 4);
        lakes(x, 1000, 0, 0, 0, NONE, NONE);
        // t is always right, so c may be n: the sixtieth year is the last that may be needed.
        int last = x.luck(60, 900, 60);
        lakes(x, 900, 1000, last, 1000000, 60, 60);
        lakes(x, 900, 1000, last - 1, 1000000, NONE, NONE);
        // A year alone: c 1 has LUCK 300000 and 800000.
        lakes(x, 300, 800, 300000, 800000, 1, 1);
        lakes(x, 300, 800, 300000, 800001, 3, 2);
    }

    private static void say() {
        ToadsBefore x = new ToadsBefore();
        due("say(0, 0, 0)", x.say(0, 0, 0), 0);
        due("say(398, 63, 2)", x.say(398, 63, 2), 1);
        due("count(3)", x.count(3), 2);
        for (int i = 2; i < 12; i++) {
            due("say(5, 5, 1)", x.say(5, 5, 1), i);
        }
        due("say(5, 5, 1)", x.say(5, 5, 1), FULL);
        due("count(3)", x.count(3), 12);
    }

    private static void judgedAs(ToadsBefore x, int known) {
        due("what COULD BE KNOWN", x.judged(0, 1, 1, 0), known);
        for (int said = 0; said < 3; said++) {
            due("SAID " + said, x.judged(said, 1, 1, 1), Integer.compare(said, known));
        }
    }

    private static void judged() {
        ToadsBefore x = new ToadsBefore();
        x.say(10, 27, 0);
        x.say(10, 27, 1);
        x.say(10, 27, 2);
        judgedAs(x, 0);
        x.shake(10, 27, 1);
        // For SIZE 1, one DAY: MAIN is R * 1000 * 9 / 64, AFTER is A * 1000; at R 64 the former is 9000.
        Check.tell(x, "rate 64;after 9;");
        judgedAs(x, 0);
        // 1000000 - 991000 * 990000 / 1000000 is 18910: above 18000; at 9 it was 17919.
        Check.tell(x, "rate 64;after 10;");
        judgedAs(x, 1);
        // 991000 * 919000 / 1000000 is 910729: 89271; with 82 it is 90262.
        Check.tell(x, "rate 64;after 81;");
        judgedAs(x, 1);
        Check.tell(x, "rate 64;after 82;");
        judgedAs(x, 2);
        // At R 239, A 313 the one is 336090, the other 33609: ten times, and no more.
        Check.tell(x, "rate 239;after 313;");
        due("odds", x.odds(10, 27, 1, 1, 11, 11), 336090);
        judgedAs(x, 1);
        Check.tell(x, "rate 64;after 0;");
        judgedAs(x, 0);
        Check.tell(x, "rate 0;after 0;");
        judgedAs(x, 0);
        Check.tell(x, "rate 0;after 1;");
        judgedAs(x, 2);
        x.shake(11, 27, 9);
        Check.tell(x, "rate 64;after 9;");
        judgedAs(x, 0);
    }

    private static void keep() {
        ToadsBefore x = new ToadsBefore();
        due("keep(2)", x.keep(2), UNKNOWN);
        due("keep(-1)", x.keep(-1), UNKNOWN);
        due("keep(huge)", x.keep(HUGE), UNKNOWN);
        x.shake(3, 4, 5);
        due("keep(0)", x.keep(0), 1);
        x.shake(6, 7, 8);
        due("keep(1)", x.keep(1), 1);
        x.shake(9, 10, 9);
        due("keep(1) again", x.keep(1), 1);
        x.goBack(0);
        due("count(0) of IMAGE 0", x.count(0), 1);
        x.goBack(1);
        due("count(0) of IMAGE 1", x.count(0), 3);
        due("about(2, 1)", x.about(2, 1), 10);
        due("about(1, 2)", x.about(1, 2), 8);
    }

    private static void goBack() {
        ToadsBefore x = new ToadsBefore();
        due("goBack(0)", x.goBack(0), NOT);
        due("goBack(2)", x.goBack(2), UNKNOWN);
        due("goBack(-1)", x.goBack(-1), UNKNOWN);
        x.shake(3, 4, 5);
        x.seed(99);
        x.keep(1);
        due("goBack(0)", x.goBack(0), NOT);
        x.shake(8, 9, 1);
        x.seed(100);
        x.sign(0, 0, 0, 0);
        x.rain(1, true);
        x.claim(0, 0, 0, 1, 1, 1, 1);
        x.say(0, 0, 0);
        x.watch(0, 0, 0, 4);
        Check.tell(x, "rate 5;grow 6;");
        x.feed(3, 0);
        due("goBack(1)", x.goBack(1), 1);
        int[] want = {1, 1, 1, 1, 3, 3, 1};
        for (int what = 0; what < 7; what++) {
            due("count(" + what + ")", x.count(what), want[what]);
        }
        due("about(0, 2)", x.about(0, 2), 5);
        due("told(0) stays", x.told(0), 5);
        due("rate(0, 2) stays", x.rate(0, 2), 5);
        due("seed", x.seed(7), 99);
        due("shake(4, 5, 6)", x.shake(4, 5, 6), 1);
        due("goBack(1): the IMAGE did not change", x.goBack(1), 1);
        due("count(0)", x.count(0), 1);
        due("seed", x.seed(7), 99);
        x.goBack(1);
        x.run(99);
        int shakes = x.count(0);
        int seed = x.seed(1);
        x.goBack(1);
        x.run(99);
        due("the same RUN again", x.count(0), shakes);
        due("the same SEED again", x.seed(1), seed);
    }
}
