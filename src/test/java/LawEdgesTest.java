/** Part 1 of the terms, promises 1 to 7: each sentence that names a boundary case. */
public final class LawEdgesTest {
    private static final int NONE = Check.NONE, UNKNOWN = Check.UNKNOWN, OUTSIDE = Check.OUTSIDE, FULL = Check.FULL;
    private static final Check CHECK = new Check("LawEdgesTest");

    // The clauses of one NUMBER, with what told() asks for them.
    private static final String[] WORDS = {"rate", "grow", "after", "days", "near", "rain"};
    private static final int[] WHAT = {0, 1, 2, 3, 4, 7};
    private static final int[] LEAST = {0, 0, 0, 1, 0, 0};
    private static final int[] MOST = {999, 99, 999, 30, 7, 9};
    private static final int[] AT_FIRST = {20, 40, 100, 10, 1, NONE, NONE, 0};

    private static final String SEVEN = "rate 1;grow 2;after 3;days 4;near 5;moon 6 to 7;rain 8;";
    private static final int[] BY_SEVEN = {1, 2, 3, 4, 5, 6, 7, 8};

    private static void due(String call, long got, long want) {
        CHECK.due(call, got, want);
    }

    public static void main(String[] args) {
        places();
        cells();
        bounds();
        boundsOfTheMoon();
        eachOnce();
        asAtFirst();
        figures();
        words();
        blanks();
        blanksThatMustBe();
        emptyTexts();
        cannotStand();
        theEnd();
        badNumbers();
        firstOfFaults();
        leastOfFaults();
        feedBytes();
        feedFull();
        lawEmptiesTheText();
        allElseIsAsItWas();
        latestFault();
        told();
        greater();
        CHECK.finish();
    }

    private static void answers(String text, int want) {
        due("law() of '" + text + "'", Check.tell(new ToadsBefore(), text), want);
    }

    private static void stands(String text, int clauses) {
        ToadsBefore x = new ToadsBefore();
        due("law() of '" + text + "'", Check.tell(x, text), clauses);
        due("fault() of '" + text + "'", x.fault(), NONE);
    }

    private static void faults(String text, int number, int place) {
        ToadsBefore x = new ToadsBefore();
        due("law() of '" + text + "'", Check.tell(x, text), -10 - number);
        due("fault() of '" + text + "'", x.fault(), place);
    }

    private static void tells(ToadsBefore x, int... want) {
        for (int what = 0; what < 8; what++) {
            due("told(" + what + ")", x.told(what), want[what]);
        }
    }

    /** FAR is seen by a CLAIM: a SHAKE at q hits one for p, if it is m or less FAR. */
    private static void far(int p, int q, int want) {
        ToadsBefore x = new ToadsBefore();
        x.shake(1, q, 1);
        for (int m = 0; m < 8; m++) {
            x.claim(0, p, m, 1, 1, 1, 0);
            due("hit of " + p + " by " + q + ", m " + m, x.score(m, 0), m >= want ? 0 : NONE);
        }
    }

    private static void places() {
        CHECK.sentence("PLACE p is in row p / 8 and at p left over by 8. FAR are two PLACES by the greater of the"
                + " differences of rows and of places in them");
        far(27, 27, 0);
        far(27, 28, 1);
        far(27, 35, 1);
        far(27, 36, 1);
        far(27, 20, 1);
        far(7, 8, 7);
        far(8, 7, 7);
        far(15, 16, 7);
        far(0, 7, 7);
        far(0, 56, 7);
        far(0, 63, 7);
        far(7, 56, 7);
        far(9, 26, 2);
        far(10, 49, 5);
        far(49, 10, 5);
        far(5, 30, 3);
        far(14, 35, 3);
        far(1, 32, 4);
        far(6, 33, 5);
        far(62, 13, 6);
    }

    private static void cells() {
        CHECK.sentence("CELLS (p, m): how many PLACES are m or less FAR from p");
        for (int m = 0; m < 8; m++) {
            ToadsBefore x = new ToadsBefore();
            for (int p = 0; p < 64; p++) {
                due("cells(" + p + ", " + m + ")", x.cells(p, m), along(p / 8, m) * along(p % 8, m));
            }
        }
        CHECK.sentence("UNKNOWN, OUTSIDE (m 0 .. 7)");
        ToadsBefore x = new ToadsBefore();
        due("cells(0, 0)", x.cells(0, 0), 1);
        due("cells(63, 7)", x.cells(63, 7), 64);
        due("cells(0, -1)", x.cells(0, -1), OUTSIDE);
        due("cells(63, 8)", x.cells(63, 8), OUTSIDE);
        due("cells(-1, 0)", x.cells(-1, 0), UNKNOWN);
        due("cells(64, 7)", x.cells(64, 7), UNKNOWN);
    }

    private static int along(int at, int m) {
        int found = 0;
        for (int other = 0; other < 8; other++) {
            found += Math.abs(at - other) <= m ? 1 : 0;
        }
        return found;
    }

    private static void toldAlone(String text, int what, int want) {
        ToadsBefore x = new ToadsBefore();
        due("law() of '" + text + "'", Check.tell(x, text), 1);
        int[] all = AT_FIRST.clone();
        all[what] = want;
        tells(x, all);
    }

    private static void bounds() {
        CHECK.sentence("'rate' R ';' (0 .. 999) 'grow' G ';' (0 .. 99) 'after' A ';' (0 .. 999) 'days' D ';' (1 .. 30)"
                + " 'near' N ';' (0 .. 7) 'rain' W ';' (0 .. 9)");
        for (int c = 0; c < WORDS.length; c++) {
            toldAlone(WORDS[c] + " " + LEAST[c] + ";", WHAT[c], LEAST[c]);
            toldAlone(WORDS[c] + " " + MOST[c] + ";", WHAT[c], MOST[c]);
            faults(WORDS[c] + " " + (MOST[c] + 1) + ";", 2, WORDS[c].length() + 1);
        }
        faults("days 0;", 2, 5);
        faults("days 000;", 2, 5);
        faults("grow 999;", 2, 5);
        faults("near 10;", 2, 5);
    }

    private static void moonIs(int a, int b) {
        ToadsBefore x = Check.land("moon " + a + " to " + b + ";");
        tells(x, 20, 40, 100, 10, 1, a, b, 0);
    }

    private static void boundsOfTheMoon() {
        CHECK.sentence("'moon' a 'to' b ';' (0 .. 27 each; none)");
        moonIs(0, 0);
        moonIs(0, 27);
        moonIs(27, 0);
        moonIs(27, 27);
        faults("moon 28 to 27;", 2, 5);
        faults("moon 27 to 28;", 2, 11);
        faults("moon 28 to 28;", 2, 5);
        faults("moon 100 to 1;", 2, 5);
        tells(new ToadsBefore(), AT_FIRST);
    }

    private static void eachOnce() {
        CHECK.sentence("clauses, each once .. 3 a clause that was told already (at its first letter)");
        stands(SEVEN, 7);
        String[] all = {"rate 1;", "grow 2;", "after 3;", "days 4;", "near 5;", "moon 6 to 7;", "rain 8;"};
        for (String clause : all) {
            stands(clause, 1);
            faults(clause + clause, 3, clause.length());
            faults(SEVEN + " " + clause, 3, SEVEN.length() + 1);
        }
        // By its name alone: the same or another NUMBER, or none.
        faults("rate 1;rate 2;", 3, 7);
        faults("rate 1;rate", 3, 7);
        faults("rain 0;rain 0;", 3, 7);
        faults("moon 1 to 2;rate 1;  moon 3 to 4;", 3, 21);
    }

    private static void asAtFirst() {
        CHECK.sentence("What a text does not tell is as at first");
        ToadsBefore x = Check.land(SEVEN);
        tells(x, BY_SEVEN);
        for (int c = 0; c < WORDS.length; c++) {
            Check.tell(x, SEVEN);
            Check.tell(x, WORDS[c] + " 7;");
            int[] want = AT_FIRST.clone();
            want[WHAT[c]] = 7;
            tells(x, want);
        }
        Check.tell(x, SEVEN);
        Check.tell(x, "moon 3 to 2;");
        tells(x, 20, 40, 100, 10, 1, 3, 2, 0);
    }

    private static void figures() {
        CHECK.sentence("NUMBERS have one to three figures .. 2 a NUMBER of four figures or more (at its first)");
        toldAlone("rate 7;", 0, 7);
        toldAlone("rate 07;", 0, 7);
        toldAlone("rate 007;", 0, 7);
        toldAlone("rate 000;", 0, 0);
        toldAlone("days 001;", 3, 1);
        toldAlone("rate 908;", 0, 908);
        faults("rate 0007;", 2, 5);
        faults("rate 0000;", 2, 5);
        faults("near 0001;", 2, 5);
        faults("rate 4294967297;", 2, 5);
        faults("rate 18446744073709551617;", 2, 5);
        faults("moon 0001 to 1;", 2, 5);
        faults("moon 1 to 0001;", 2, 10);
        faults("rate " + "1".repeat(155), 2, 5);
    }

    private static void words() {
        CHECK.sentence("words are letters a .. z side by side .. 1 it cannot stand there (a word that cannot: at its"
                + " first letter)");
        faults("a", 1, 0);
        faults("z", 1, 0);
        faults("rat 1;", 1, 0);
        faults("rates 1;", 1, 0);
        faults("ratea 1;", 1, 0);
        faults("ratez 1;", 1, 0);
        faults("xrate 1;", 1, 0);
        faults("mate 1;", 1, 0);
        faults("rote 1;", 1, 0);
        faults("rare 1;", 1, 0);
        faults("rats 1;", 1, 0);
        faults("rategrow 1;", 1, 0);
        faults(" ra te 1;", 1, 1);
        faults("rate`1;", 1, 4);
        faults("rate{1;", 1, 4);
        faults("rate@1;", 1, 4);
        faults("Rate 1;", 1, 0);
        faults("RATE 1;", 1, 0);
        faults("ratE 1;", 1, 0);
        faults("rate 1;to 2;", 1, 7);
        faults("to", 1, 0);
        faults("moon 1 t 2;", 1, 7);
        faults("moon 1 tow 2;", 1, 7);
        faults("moon 1 ot 2;", 1, 7);
        faults("moon 1 so 2;", 1, 7);
        faults("moon 1 ta 2;", 1, 7);
        faults("moon 1 moon 2;", 1, 7);
        faults("moon 1 to to 2;", 1, 10);
        faults("moon to 2;", 1, 5);
        faults("rate 1 to 2;", 1, 7);
        // Letters by their lowest seven bits alone are none.
        faults("\u00f2ate 1;", 1, 0);
        faults("rat\u00e5 1;", 1, 0);
    }

    private static void blanks() {
        CHECK.sentence("blanks (32) may stand anywhere but within words and NUMBERS");
        String[][] clauses = {{"rate", "1", ";"}, {"grow", "22", ";"}, {"after", "333", ";"}, {"days", "4", ";"},
            {"near", "5", ";"}, {"moon", "6", "to", "7", ";"}, {"rain", "8", ";"}};
        for (String[] parts : clauses) {
            for (int gap = 0; gap <= parts.length; gap++) {
                StringBuilder text = new StringBuilder();
                for (int i = 0; i <= parts.length; i++) {
                    text.append(i == gap ? "   " : "").append(i < parts.length ? parts[i] : "");
                }
                stands(text.toString(), 1);
            }
            stands(String.join("", parts), 1);
            stands("  " + String.join("  ", parts) + "  ", 1);
        }
        faults("r ate 1;", 1, 0);
        faults("rat e 1;", 1, 0);
        faults("rate 1 2;", 1, 7);
        faults("moon 1 t o 2;", 1, 7);
        faults("moon 1 to 2 3;", 1, 12);
        int[] others = {0, 9, 10, 13, 31, 33, 95, 127, 128, 160, 224, 255};
        for (int sign : others) {
            faults((char) sign + "rate 1;", 1, 0);
            faults("rate" + (char) sign + "1;", 1, 4);
            faults("rate 1" + (char) sign + ";", 1, 6);
            faults("rate 1;" + (char) sign, 1, 7);
            faults("moon 1 to" + (char) sign + "2;", 1, 9);
        }
    }

    private static void blanksThatMustBe() {
        CHECK.sentence("two words, two NUMBERS side by side need one");
        stands("rate1;grow2;after3;days4;near5;moon6to7;rain8;", 7);
        stands("moon6 to7;", 1);
        stands("moon6to 7;", 1);
        // Without one they are one word, one NUMBER.
        faults("moonto 7;", 1, 0);
        faults("rate 1;growafter 2;", 1, 7);
        toldAlone("rate 12;", 0, 12);
        faults("rate 1 2;", 1, 7);
        faults("moon to", 1, 5);
    }

    private static void emptyTexts() {
        CHECK.sentence("An empty text (or one of blanks alone) has no FAULT");
        stands("", 0);
        stands(" ", 0);
        stands("        ", 0);
        stands(" ".repeat(160), 0);
        ToadsBefore x = Check.land(SEVEN);
        due("law() of nothing", x.law(), 0);
        tells(x, AT_FIRST);
        Check.tell(x, SEVEN);
        due("law() of blanks", Check.tell(x, "   "), 0);
        tells(x, AT_FIRST);
        Check.tell(x, "x");
        due("law() of nothing", x.law(), 0);
        due("fault()", x.fault(), NONE);
    }

    private static void cannotStand() {
        CHECK.sentence("FAULTS, at the first byte that has one .. 1 it cannot stand there");
        faults(";", 1, 0);
        faults("1;", 1, 0);
        faults(" ;", 1, 1);
        faults("rate;", 1, 4);
        faults("rate ;", 1, 5);
        faults("rate 1;;", 1, 7);
        faults("rate 1;2;", 1, 7);
        faults("rate 1 grow 2;", 1, 7);
        faults("rate grow 2;", 1, 5);
        faults("rate 1to;", 1, 6);
        faults("rate +1;", 1, 5);
        faults("rate -1;", 1, 5);
        faults("rate 1/", 1, 6);
        faults("rate 1:", 1, 6);
        faults("rate 1.0;", 1, 6);
        faults("rate 1,", 1, 6);
        faults("moon;", 1, 4);
        faults("moon 1;", 1, 6);
        faults("moon 1 2;", 1, 7);
        faults("moon 1 to;", 1, 9);
        faults("moon 1 to 2 to 3;", 1, 12);
        faults("days 1 to 2;", 1, 7);
    }

    private static void theEnd() {
        CHECK.sentence("(the end at the text's length)");
        String[] cut = {"rate", "rate ", "rate 1", "rate 1  ", "moon", "moon ", "moon 1", "moon 1 ", "moon 1 to",
            "moon 1 to ", "moon 1 to 2", "moon 1 to 2 ", "grow 1;rate", "grow 1;rate 1", "grow 1;  rate 1 "};
        for (String text : cut) {
            faults(text, 1, text.length());
        }
        // A word that is cut short is another word.
        faults("rat", 1, 0);
        faults("moon 1 t", 1, 7);
        faults(" ".repeat(154) + "rate 1", 1, 160);
        faults(" ".repeat(156) + "rate", 1, 160);
        faults(" ".repeat(157) + "rat", 1, 157);
        faults(" ".repeat(159) + "7", 1, 159);
        stands(" ".repeat(153) + "rate 1;", 1);
    }

    private static void badNumbers() {
        CHECK.sentence("2 a NUMBER .. out of its bounds (at its first)");
        faults("rate 1;grow 100;", 2, 12);
        faults("rate  1;  days  31;", 2, 16);
        faults("days31;", 2, 4);
        faults("rain 10", 2, 5);
        faults("rain 99x", 2, 5);
        faults("near8to;", 2, 4);
        faults("moon 28", 2, 5);
        faults("moon 1 to 99", 2, 10);
    }

    private static void firstOfFaults() {
        CHECK.sentence("FAULTS, at the first byte that has one");
        faults("rat 1000;rate 1;rate 1;", 1, 0);
        faults("rate 1000;rat 1;", 2, 5);
        faults("rate 1000 x", 2, 5);
        faults("rate 1;rate 1000;", 3, 7);
        faults("rate 1;rate;", 3, 7);
        faults("rate 1;moon 28 to 28;rate 1;", 2, 12);
        faults("grow 1;rate 1 rate 1;grow 1;", 1, 14);
    }

    private static void leastOfFaults() {
        CHECK.sentence("of these the least");
        faults("rate rate 1;", 1, 5);
        faults("rate 1 rate 2;", 1, 7);
        faults("rate 1;grow rate 2;", 1, 12);
        faults("rate 1;grow 2 rate 3;", 1, 14);
        faults("moon moon 1 to 2;", 1, 5);
        faults("1000;", 1, 0);
        faults("rate 1;1000;", 1, 7);
        faults("rate 1 1000;", 1, 7);
        faults("moon 1 1000;", 1, 7);
        faults("moon 1 to 2 1000;", 1, 12);
    }

    private static void feedBytes() {
        CHECK.sentence("The lowest n bytes (1 .. 8) of a long, the highest of these first, come behind THE TEXT:"
                + " how many it has");
        ToadsBefore x = new ToadsBefore();
        due("feed(8)", x.feed(8, Check.packed("rate 123")), 8);
        due("feed(1), all other bits set", x.feed(1, -1L << 8 | ';'), 9);
        due("law()", x.law(), 1);
        due("told(0)", x.told(0), 123);
        String text = "grow 45;";
        for (int n = 1; n <= 7; n++) {
            ToadsBefore y = new ToadsBefore();
            due("feed(" + n + ")", y.feed(n, -1L << (8 * n) | Check.packed(text.substring(0, n))), n);
            due("feed(" + (8 - n) + ")", y.feed(8 - n, Check.packed(text.substring(n))), 8);
            due("law()", y.law(), 1);
            due("told(1)", y.told(1), 45);
        }
        // The highest bit of a byte, of the long, is no sign of a number below 0.
        ToadsBefore z = new ToadsBefore();
        due("feed(8, tiny)", z.feed(8, Long.MIN_VALUE), 8);
        due("law()", z.law(), -11);
        due("fault()", z.fault(), 0);
        CHECK.sentence("OUTSIDE");
        due("feed(0, 0)", z.feed(0, 0), OUTSIDE);
        due("feed(9, 0)", z.feed(9, 0), OUTSIDE);
        due("count(5)", z.count(5), 0);
    }

    private static void feedFull() {
        CHECK.sentence("FULL (160)");
        for (int left = 1; left <= 8; left++) {
            ToadsBefore x = new ToadsBefore();
            Check.feedAll(x, " ".repeat(160 - left));
            due("count(5)", x.count(5), 160 - left);
            if (left < 8) {
                due("feed(" + (left + 1) + ") with room for " + left, x.feed(left + 1, -1), FULL);
                due("feed(8) with room for " + left, x.feed(8, -1), FULL);
                due("count(5)", x.count(5), 160 - left);
            }
            due("feed(" + left + ")", x.feed(left, Check.packed(" ".repeat(left))), 160);
            due("feed(1) with no room", x.feed(1, -1), FULL);
            due("feed(9) with no room", x.feed(9, -1), OUTSIDE);
            due("law(): nothing of what was refused", x.law(), 0);
            due("feed(8) behind it", x.feed(8, 0), 8);
        }
        ToadsBefore x = new ToadsBefore();
        Check.feedAll(x, " ".repeat(106) + SEVEN.substring(0, 54));
        due("feed(1)", x.feed(1, ';'), FULL);
        due("law() of 160 bytes without the last", x.law(), -11);
        due("fault()", x.fault(), 160);
        due("law() of 160 bytes", Check.tell(x, " ".repeat(105) + SEVEN), 7);
        tells(x, BY_SEVEN);
    }

    private static void lawEmptiesTheText() {
        CHECK.sentence("THE TEXT (it is empty then, with a FAULT, too) becomes THE LAW: how many clauses");
        ToadsBefore x = new ToadsBefore();
        due("law()", Check.tell(x, "rate 5;"), 1);
        due("count(5)", x.count(5), 0);
        due("law()", Check.tell(x, "rate 5;x"), -11);
        due("count(5)", x.count(5), 0);
        due("law()", Check.tell(x, "rate 1000;"), -12);
        due("count(5)", x.count(5), 0);
        due("law()", Check.tell(x, "rate 5;rate 5;"), -13);
        due("count(5)", x.count(5), 0);
        due("law() of the next text alone", Check.tell(x, "rate 6;"), 1);
        due("told(0)", x.told(0), 6);
        for (int clauses = 0; clauses <= 7; clauses++) {
            String[] all = SEVEN.split(";");
            StringBuilder text = new StringBuilder();
            for (int c = 0; c < clauses; c++) {
                text.append(all[c]).append(';');
            }
            answers(text.toString(), clauses);
        }
    }

    private static void allElseIsAsItWas() {
        CHECK.sentence("-10 less the number of its FAULT (all else is as it was)");
        String[] bad = {"near 7;rate 6;x", "near 7;rate 6", "near 7;rate 1000;", "near 7;near 7;", "moon 1 to 28;"};
        for (String text : bad) {
            ToadsBefore x = Check.land(SEVEN);
            x.shake(4, 5, 6);
            x.seed(7);
            x.rain(1, true);
            due("law() of '" + text + "'", Check.tell(x, text) < -10 ? 1 : 0, 1);
            tells(x, BY_SEVEN);
            due("count(0)", x.count(0), 1);
            due("count(4)", x.count(4), 4);
            due("count(6)", x.count(6), 1);
            due("seed(0)", x.seed(0), 7);
        }
        CHECK.sentence("THE TEXT becomes THE LAW");
        ToadsBefore x = Check.land("rate 5;");
        x.shake(4, 5, 6);
        x.seed(7);
        Check.tell(x, SEVEN);
        due("count(0): THE BOOK stays", x.count(0), 1);
        due("count(4): THE DAY stays", x.count(4), 4);
        due("seed(0): THE SEED stays", x.seed(0), 7);
    }

    private static void latestFault() {
        CHECK.sentence("The place (from 0 on) of the byte that has the FAULT of the latest law(); NONE");
        ToadsBefore x = new ToadsBefore();
        due("fault() ahead of each law()", x.fault(), NONE);
        Check.feedAll(x, "xyz");
        due("fault() of a text that is no law yet", x.fault(), NONE);
        due("law()", x.law(), -11);
        due("fault(), from 0 on", x.fault(), 0);
        Check.tell(x, "rate 1x");
        due("fault() of the latest", x.fault(), 6);
        Check.feedAll(x, "rate 1;");
        due("fault() ahead of the next law()", x.fault(), 6);
        due("law()", x.law(), 1);
        due("fault() behind one without", x.fault(), NONE);
        Check.tell(x, "rate 1000;");
        due("fault()", x.fault(), 5);
        x.law();
        due("fault() behind an empty text", x.fault(), NONE);
    }

    private static void told() {
        CHECK.sentence("Of THE LAW: what = 0 R, 1 G, 2 A, 3 D, 4 N, 5, 6 a and b of the moon (NONE), 7 W. OUTSIDE");
        ToadsBefore x = new ToadsBefore();
        tells(x, AT_FIRST);
        due("told(-1)", x.told(-1), OUTSIDE);
        due("told(8)", x.told(8), OUTSIDE);
        Check.tell(x, SEVEN);
        tells(x, BY_SEVEN);
        Check.tell(x, "rain 1;");
        due("told(5): no moon again", x.told(5), NONE);
        due("told(6): no moon again", x.told(6), NONE);
    }

    private static void shares(String law, int... want) {
        ToadsBefore x = Check.land(law);
        for (int z = 1; z <= 9; z++) {
            due("greater(" + z + ") by '" + law + "'", x.greater(z), want[z - 1]);
        }
        due("greater(0)", x.greater(0), OUTSIDE);
        due("greater(10)", x.greater(10), OUTSIDE);
    }

    private static void greater() {
        CHECK.sentence("SIZES are 1 to 9. GREATER (z), of a MILLION: how many SHAKES are of SIZE z or more: a MILLION"
                + " for 1, then each time times G / 100 (cut)");
        shares("grow 0;", 1000000, 0, 0, 0, 0, 0, 0, 0, 0);
        shares("grow 1;", 1000000, 10000, 100, 1, 0, 0, 0, 0, 0);
        shares("grow 33;", 1000000, 330000, 108900, 35937, 11859, 3913, 1291, 426, 140);
        shares("", 1000000, 400000, 160000, 64000, 25600, 10240, 4096, 1638, 655);
        // 599695.3, 527731.6, 464403.2, 408674.6, 359633.1: not cut each time the last three were others.
        shares("grow 88;", 1000000, 880000, 774400, 681472, 599695, 527731, 464403, 408674, 359633);
        shares("grow 50;", 1000000, 500000, 250000, 125000, 62500, 31250, 15625, 7812, 3906);
        shares("grow 99;", 1000000, 990000, 980100, 970299, 960596, 950990, 941480, 932065, 922744);
    }
}
