/** WORDS and IMAGES (part 4 of the terms, promises 1, 30 to 33): each sentence that names a boundary case. */
public final class WordEdgesTest {
    private static final int NONE = Check.NONE, UNKNOWN = Check.UNKNOWN, OUTSIDE = Check.OUTSIDE, NOT = Check.NOT,
        FULL = Check.FULL, HUGE = Check.HUGE;
    private static final Check CHECK = new Check("WordEdgesTest");

    private static void due(String call, long got, long want) {
        CHECK.due(call, got, want);
    }

    public static void main(String[] args) {
        newObject();
        numbersFromNothingOn();
        wordsFull();
        wordBounds();
        upToTwoTimes();
        upToTenTimes();
        knownOnItsDay();
        knownInNDays();
        knownOfSizeHere();
        saidSo();
        judgedBounds();
        judgedByNow();
        keptAsItWas();
        keptAgain();
        keptApart();
        keptEmpty();
        keptFull();
        keptWithItsRuns();
        allElseStays();
        imageRefusals();
        aFullObject();
        CHECK.finish();
    }

    private static void newObject() {
        CHECK.sentence("THE LAW as at first; THE BOOK is empty");
        int[] first = {20, 40, 100, 10, 1, NONE, NONE, 0};
        ToadsBefore x = new ToadsBefore();
        for (int what = 0; what < 8; what++) {
            due("told(" + what + ")", x.told(what), first[what]);
        }
        due("count(0)", x.count(0), 0);
        due("about(0, 0)", x.about(0, 0), UNKNOWN);
        // What another object was told is not told to this one.
        ToadsBefore other = Check.land("rate 1;grow 2;after 3;days 4;near 5;moon 6 to 7;rain 8;");
        other.shake(1, 2, 3);
        other.seed(9);
        other.rain(4, true);
        other.watch(0, 1, 2, 3);
        other.keep(0);
        ToadsBefore y = new ToadsBefore();
        for (int what = 0; what < 8; what++) {
            due("told(" + what + ")", y.told(what), first[what]);
        }
        for (int what = 0; what < 7; what++) {
            due("count(" + what + ")", y.count(what), 0);
        }
        due("seed(0)", y.seed(0), 0);
        due("rate(0, 2)", y.rate(0, 2), 0);
        due("goBack(0)", y.goBack(0), NOT);
        due("fault()", y.fault(), NONE);
    }

    private static void numbersFromNothingOn() {
        CHECK.sentence("What has a number has it from 0 on, as it comes");
        ToadsBefore x = new ToadsBefore();
        for (int number = 0; number < 3; number++) {
            due("shake", x.shake(5, number, 1), number);
            due("sign", x.sign(0, 5, number, 5), number);
            due("claim", x.claim(0, number, 0, 1, 5, 5, 0), number);
            due("say", x.say(5, number, 0), number);
            due("what is refused takes none", x.shake(5, 0, 0), OUTSIDE);
            due("what is refused takes none", x.sign(0, 5, 0, 4), OUTSIDE);
            due("what is refused takes none", x.claim(5, 0, 0, 1, 5, 5, 0), OUTSIDE);
            due("what is refused takes none", x.say(5, 0, 3), OUTSIDE);
        }
        for (int number = 0; number < 3; number++) {
            due("about", x.about(number, 1), number);
            due("omen", x.omen(number, 2), number);
            due("score", x.score(number, 0), number);
        }
        // A RUN gives numbers, too.
        Check.tell(x, "rate 999;after 0;");
        x.seed(1);
        due("run(1)", x.run(1), 1);
        due("about(3, 0)", x.about(3, 0), 6);
        due("shake", x.shake(6, 1, 1), 4);
    }

    private static void wordsFull() {
        CHECK.sentence("WORDS (12 at most)");
        ToadsBefore x = new ToadsBefore();
        for (int i = 0; i < 12; i++) {
            due("say", x.say(i, i, i % 3), i);
        }
        due("the thirteenth", x.say(0, 0, 0), FULL);
        due("the thirteenth, said 3", x.say(0, 0, 3), OUTSIDE);
        due("the thirteenth, PLACE 64", x.say(0, 64, 3), UNKNOWN);
        due("count(3)", x.count(3), 12);
        for (int i = 0; i < 12; i++) {
            due("judged(" + i + ", 1, 1, 1)", x.judged(i, 1, 1, 1), i % 3 == 0 ? 0 : 1);
        }
        due("judged(12, 1, 1, 1)", x.judged(12, 1, 1, 1), UNKNOWN);
    }

    private static void wordBounds() {
        CHECK.sentence("A WORD: its number. UNKNOWN (the PLACE), OUTSIDE (DAY to 398, said 0 .. 2), FULL");
        ToadsBefore x = new ToadsBefore();
        due("the least of all", x.say(0, 0, 0), 0);
        due("the most of all", x.say(398, 63, 2), 1);
        due("DAY 399", x.say(399, 0, 0), OUTSIDE);
        due("DAY -1", x.say(-1, 0, 0), OUTSIDE);
        due("said 3", x.say(0, 0, 3), OUTSIDE);
        due("said -1", x.say(0, 0, -1), OUTSIDE);
        due("PLACE 64, DAY 399", x.say(399, 64, 3), UNKNOWN);
        due("PLACE -1", x.say(0, -1, 0), UNKNOWN);
        due("count(3)", x.count(3), 2);
    }

    /** In a corner, behind a SHAKE of SIZE 1 there: what COULD BE KNOWN for the next DAY. */
    private static void known(String law, int with, int without, int want) {
        ToadsBefore x = Check.land(law);
        x.say(10, 0, 1);
        due("ODDS without THE BOOK by '" + law + "'", x.odds(10, 0, 1, 1, 11, 11), without);
        x.shake(10, 0, 1);
        due("ODDS by '" + law + "'", x.odds(10, 0, 1, 1, 11, 11), with);
        due("judged(0, 1, 1, 0) by '" + law + "'", x.judged(0, 1, 1, 0), want);
        due("judged(0, 1, 1, 1) by '" + law + "'", x.judged(0, 1, 1, 1), Integer.compare(1, want));
    }

    private static void upToTwoTimes() {
        CHECK.sentence("0, if the former are no more than 2 times the latter");
        known("rate 127;after 8;", 15874, 7937, 0);
        known("rate 375;after 24;", 46875, 23437, 1);
        known("rate 500;after 0;", 31250, 31250, 0);
        known("rate 0;after 0;", 0, 0, 0);
        known("rate 0;after 1;", 1000, 0, 2);
    }

    private static void upToTenTimes() {
        CHECK.sentence("1 up to 10 times, else 2");
        known("rate 640;after 375;", 400000, 40000, 1);
        known("rate 461;after 267;", 288120, 28812, 1);
        known("rate 658;after 386;", 411251, 41125, 2);
        known("rate 866;after 515;", 541251, 54125, 2);
    }

    private static void knownOnItsDay() {
        CHECK.sentence("ODDS (DAY, p, 1, z, DAY and 1, DAY and n)");
        ToadsBefore x = Check.land("rate 1;after 999;days 1;near 0;");
        x.say(9, 27, 0);
        x.say(10, 27, 0);
        x.say(11, 27, 0);
        x.shake(10, 27, 9);
        due("the DAY ahead of the SHAKE", x.judged(0, 1, 1, 0), 0);
        due("the DAY ahead of it, for two DAYS", x.judged(0, 1, 2, 0), 0);
        due("its DAY", x.judged(1, 1, 1, 0), 2);
        due("the DAY behind it: D is 1", x.judged(2, 1, 1, 0), 0);
        Check.tell(x, "rate 1;after 999;days 2;near 0;");
        due("the DAY behind it: D is 2", x.judged(2, 1, 1, 0), 2);
    }

    private static void knownInNDays() {
        CHECK.sentence("n DAYS (1 .. 60, to 399 at most)");
        ToadsBefore x = Check.land("rate 20;after 25;days 1;near 0;");
        x.say(10, 0, 0);
        x.shake(10, 0, 1);
        // MAIN is 1250. Of one DAY 26219 beside 1250, of two 27437 beside 2499; of more and more the latter grows.
        due("n 1", x.judged(0, 1, 1, 0), 2);
        due("n 2", x.judged(0, 1, 2, 0), 2);
        due("n 3: 28653 beside 3746", x.judged(0, 1, 3, 0), 1);
        due("n 19", x.judged(0, 1, 19, 0), 1);
        due("n 21", x.judged(0, 1, 21, 0), 0);
        due("n 60", x.judged(0, 1, 60, 0), 0);
        due("n 61", x.judged(0, 1, 61, 0), OUTSIDE);
        due("n 0", x.judged(0, 1, 0, 0), OUTSIDE);
    }

    private static void knownOfSizeHere() {
        CHECK.sentence("ODDS (DAY, p, 1, z, ..) beside the same without THE BOOK");
        ToadsBefore x = Check.land("rate 1;grow 0;after 999;days 1;near 0;");
        x.say(10, 27, 0);
        x.say(10, 28, 0);
        x.say(10, 29, 0);
        x.shake(10, 27, 9);
        due("at the PLACE", x.judged(0, 1, 1, 0), 2);
        due("1 FAR", x.judged(1, 1, 1, 0), 2);
        due("2 FAR", x.judged(2, 1, 1, 0), 0);
        due("of SIZE 2, which none has", x.judged(0, 2, 1, 0), 0);
        Check.tell(x, "rate 1;grow 99;after 999;days 1;near 0;");
        due("of SIZE 9", x.judged(0, 9, 1, 0), 2);
    }

    private static void saidSo() {
        CHECK.sentence("1 whether it was SAID so (0), less (-1) or more (1)");
        String[] laws = {"rate 127;after 8;", "rate 640;after 375;", "rate 658;after 386;"};
        for (int known = 0; known < 3; known++) {
            ToadsBefore x = Check.land(laws[known]);
            x.shake(10, 0, 1);
            for (int said = 0; said < 3; said++) {
                x.say(10, 0, said);
                due("known " + known, x.judged(said, 1, 1, 0), known);
                due("known " + known + ", said " + said, x.judged(said, 1, 1, 1),
                        said == known ? 0 : said < known ? -1 : 1);
            }
        }
    }

    private static void judgedBounds() {
        CHECK.sentence("UNKNOWN, OUTSIDE (its DAY and n beyond 399, too)");
        ToadsBefore x = new ToadsBefore();
        due("of none", x.judged(0, 1, 1, 0), UNKNOWN);
        x.say(398, 0, 0);
        x.say(339, 0, 0);
        x.say(340, 0, 0);
        x.say(0, 0, 0);
        due("398 and 1", x.judged(0, 1, 1, 0), 0);
        due("398 and 2", x.judged(0, 1, 2, 0), OUTSIDE);
        due("339 and 60", x.judged(1, 1, 60, 0), 0);
        due("339 and 61", x.judged(1, 1, 61, 0), OUTSIDE);
        due("340 and 60", x.judged(2, 1, 60, 0), OUTSIDE);
        due("340 and 59", x.judged(2, 1, 59, 0), 0);
        due("0 and 60", x.judged(3, 1, 60, 0), 0);
        due("0 and 61", x.judged(3, 1, 61, 0), OUTSIDE);
        due("0 and 399", x.judged(3, 1, 399, 0), OUTSIDE);
        due("n huge", x.judged(0, 1, HUGE, 0), OUTSIDE);
        due("n 0", x.judged(0, 1, 0, 0), OUTSIDE);
        due("n -1", x.judged(0, 1, -1, 0), OUTSIDE);
        due("z 0", x.judged(0, 0, 1, 0), OUTSIDE);
        due("z 1", x.judged(0, 1, 1, 0), 0);
        due("z 9", x.judged(0, 9, 1, 0), 0);
        due("z 10", x.judged(0, 10, 1, 0), OUTSIDE);
        due("what -1", x.judged(0, 1, 1, -1), OUTSIDE);
        due("what 2", x.judged(0, 1, 1, 2), OUTSIDE);
        due("WORD 4, all else wrong", x.judged(4, 0, 61, 2), UNKNOWN);
        due("WORD -1", x.judged(-1, 1, 1, 0), UNKNOWN);
    }

    private static void judgedByNow() {
        CHECK.sentence("THE BOOK");
        ToadsBefore x = Check.land("rate 1;after 999;near 0;");
        x.say(10, 27, 0);
        x.keep(0);
        due("by no SHAKE", x.judged(0, 1, 1, 0), 0);
        x.shake(10, 27, 9);
        due("by a SHAKE that was told later", x.judged(0, 1, 1, 0), 2);
        x.goBack(0);
        due("behind goBack", x.judged(0, 1, 1, 0), 0);
    }

    private static void isBook(ToadsBefore x, int day, int seed, int[]... shakes) {
        due("count(0)", x.count(0), shakes.length);
        for (int k = 0; k < shakes.length; k++) {
            for (int what = 0; what < 3; what++) {
                due("about(" + k + ", " + what + ")", x.about(k, what), shakes[k][what]);
            }
        }
        due("about behind the last", x.about(shakes.length, 0), UNKNOWN);
        due("count(4)", x.count(4), day);
        due("seed", x.seed(seed), seed);
    }

    private static void keptAsItWas() {
        CHECK.sentence("IMAGES 0, 1 keep THE BOOK, THE DAY, THE SEED");
        for (int i = 0; i < 2; i++) {
            ToadsBefore x = Check.land("rate 0;after 0;");
            x.shake(3, 4, 5);
            x.shake(6, 7, 8);
            x.run(4);
            x.seed(99);
            due("keep(" + i + ")", x.keep(i), 1);
            isBook(x, 10, 99, new int[] {3, 4, 5}, new int[] {6, 7, 8});
            x.shake(20, 1, 1);
            x.seed(1);
            isBook(x, 20, 1, new int[] {3, 4, 5}, new int[] {6, 7, 8}, new int[] {20, 1, 1});
            due("goBack(" + i + ")", x.goBack(i), 1);
            isBook(x, 10, 99, new int[] {3, 4, 5}, new int[] {6, 7, 8});
            due("shake ahead of THE DAY", x.shake(9, 1, 1), NOT);
            due("shake on THE DAY", x.shake(10, 2, 2), 2);
            due("goBack(" + i + ") again", x.goBack(i), 1);
            isBook(x, 10, 99, new int[] {3, 4, 5}, new int[] {6, 7, 8});
            x.seed(HUGE);
            x.keep(i);
            x.seed(0);
            x.goBack(i);
            due("the greatest SEED", x.seed(0), HUGE);
        }
    }

    private static void keptAgain() {
        CHECK.sentence("IMAGE i becomes what is so: 1");
        ToadsBefore x = new ToadsBefore();
        x.keep(0);
        x.shake(3, 4, 5);
        x.seed(7);
        due("keep(0) again", x.keep(0), 1);
        x.shake(6, 7, 8);
        x.goBack(0);
        isBook(x, 3, 7, new int[] {3, 4, 5});
        x.keep(0);
        x.goBack(0);
        isBook(x, 3, 7, new int[] {3, 4, 5});
    }

    private static void keptApart() {
        CHECK.sentence("What is so becomes IMAGE i: 1");
        ToadsBefore x = new ToadsBefore();
        x.seed(1);
        x.keep(0);
        x.shake(3, 4, 5);
        x.shake(3, 5, 6);
        x.seed(2);
        x.keep(1);
        x.goBack(0);
        isBook(x, 0, 1);
        // Other SHAKES of the same numbers: those of the IMAGE must come back whole.
        x.shake(8, 9, 1);
        x.shake(9, 10, 2);
        x.shake(10, 11, 3);
        x.goBack(1);
        isBook(x, 3, 2, new int[] {3, 4, 5}, new int[] {3, 5, 6});
        x.goBack(0);
        x.shake(50, 60, 7);
        x.keep(0);
        x.goBack(1);
        isBook(x, 3, 2, new int[] {3, 4, 5}, new int[] {3, 5, 6});
        x.goBack(0);
        isBook(x, 50, 1, new int[] {50, 60, 7});
        // What comes behind goBack does not reach into the IMAGE.
        x.shake(51, 61, 8);
        x.goBack(0);
        isBook(x, 50, 1, new int[] {50, 60, 7});
    }

    private static void keptEmpty() {
        CHECK.sentence("IMAGES 0, 1 keep THE BOOK");
        ToadsBefore x = new ToadsBefore();
        x.keep(1);
        x.shake(399, 63, 9);
        due("goBack(1)", x.goBack(1), 1);
        isBook(x, 0, 0);
        due("shake(0, 0, 1)", x.shake(0, 0, 1), 0);
        isBook(x, 0, 0, new int[] {0, 0, 1});
    }

    private static void keptFull() {
        CHECK.sentence("IMAGES 0, 1 keep THE BOOK (60 SHAKES at most)");
        ToadsBefore x = new ToadsBefore();
        for (int k = 0; k < 59; k++) {
            x.shake(k, k, 1 + k % 9);
        }
        x.keep(0);
        x.shake(59, 59, 6);
        x.keep(1);
        due("full", x.shake(60, 0, 1), FULL);
        x.goBack(0);
        due("no longer full", x.shake(70, 61, 2), 59);
        due("about(59, 1)", x.about(59, 1), 61);
        x.goBack(1);
        due("full again", x.shake(80, 0, 1), FULL);
        due("run(1)", x.run(1), FULL);
        for (int k = 0; k < 60; k++) {
            due("about(" + k + ", 0)", x.about(k, 0), k);
            due("about(" + k + ", 1)", x.about(k, 1), k);
            due("about(" + k + ", 2)", x.about(k, 2), k == 59 ? 6 : 1 + k % 9);
        }
    }

    private static void keptWithItsRuns() {
        CHECK.sentence("IMAGES 0, 1 keep THE BOOK, THE DAY, THE SEED: the same RUN comes again");
        ToadsBefore x = Check.land("rate 300;grow 60;after 90;days 5;");
        x.seed(4711);
        x.run(3);
        x.keep(0);
        int came = x.run(20);
        int shakes = x.count(0);
        CHECK.holds("SHAKES came", came > 2);
        int[][] seen = new int[shakes][3];
        for (int k = 0; k < shakes; k++) {
            for (int what = 0; what < 3; what++) {
                seen[k][what] = x.about(k, what);
            }
        }
        int day = x.count(4);
        int seed = x.seed(0);
        x.goBack(0);
        due("run(20)", x.run(20), came);
        isBook(x, day, seed, seen);
    }

    private static void allElseStays() {
        CHECK.sentence("IMAGES keep THE BOOK, THE DAY, THE SEED, and nothing else");
        ToadsBefore x = new ToadsBefore();
        x.keep(0);
        Check.tell(x, "rate 1;grow 2;after 3;days 4;near 5;moon 6 to 7;rain 8;");
        Check.tell(x, "  ?");
        Check.feedAll(x, "rate 9");
        x.watch(3, 4, 5, 9);
        x.rain(17, true);
        x.sign(3, 20, 4, 21);
        x.claim(0, 0, 0, 1, 1, 1, 1);
        x.say(0, 0, 0);
        x.keep(1);
        for (int i = 0; i < 2; i++) {
            due("goBack(" + i + ")", x.goBack(i), 1);
            for (int what = 0; what < 8; what++) {
                due("told(" + what + ")", x.told(what), what + 1);
            }
            int[] want = {0, 1, 1, 1, 0, 6, 1};
            for (int what = 0; what < 7; what++) {
                due("count(" + what + ")", x.count(what), want[what]);
            }
            due("fault()", x.fault(), 2);
            due("rate(3, 2)", x.rate(3, 2), 5);
            due("omen(0, 3)", x.omen(0, 3), 21);
            due("omen(0, 4)", x.omen(0, 4), 2);
        }
        x.feed(1, ';');
        due("law(): THE TEXT stayed", x.law(), 1);
        due("told(0)", x.told(0), 9);
    }

    private static void imageRefusals() {
        CHECK.sentence("UNKNOWN, NOT: it was not kept");
        int[] none = {-1, 2, Check.TINY, HUGE};
        for (int i : none) {
            ToadsBefore x = new ToadsBefore();
            x.shake(3, 4, 5);
            due("keep(" + i + ")", x.keep(i), UNKNOWN);
            due("goBack(" + i + ")", x.goBack(i), UNKNOWN);
            due("goBack(0)", x.goBack(0), NOT);
            due("goBack(1)", x.goBack(1), NOT);
            isBook(x, 3, 0, new int[] {3, 4, 5});
            x.keep(1);
            due("goBack(0): the other was kept", x.goBack(0), NOT);
            due("goBack(1)", x.goBack(1), 1);
            due("goBack(" + i + ")", x.goBack(i), UNKNOWN);
        }
    }

    /** All that an object may hold, and its 512th call. */
    private static void aFullObject() {
        CHECK.sentence("An object is used for at most 512 calls");
        ToadsBefore x = new ToadsBefore();
        int calls = 0;
        for (int i = 0; i < 100; i++) {
            calls += 4;
            due("sign", x.sign(i % 8, 399 - i, i % 64, 399 - i), i);
            due("shake", x.shake(300 + i / 2, i % 64, 9), i < 60 ? i : FULL);
            due("claim", x.claim(0, i % 64, 7, 1, 300, 399, 0), i < 12 ? i : FULL);
            due("say", x.say(i, i % 64, 2), i < 12 ? i : FULL);
        }
        Check.feedAll(x, " ".repeat(160));
        x.watch(3, 35, 0, 399);
        calls += 21;
        for (; calls < 500; calls++) {
            x.rain(calls - 400, true);
        }
        int[] want = {60, 100, 12, 12, 329, 160, 79};
        for (int what = 0; what < 7; what++) {
            due("count(" + what + ")", x.count(what), want[what]);
        }
        due("omen(99, 5)", x.omen(99, 5), 1);
        due("score(11, 0)", x.score(11, 0), 0);
        due("judged(11, 9, 60, 1)", x.judged(11, 9, 60, 1), 1);
        due("about(59, 0)", x.about(59, 0), 329);
        due("the 512th: law() of 160 blanks", x.law(), 0);
    }
}
