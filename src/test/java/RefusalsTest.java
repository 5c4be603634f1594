import java.util.ArrayList;
import java.util.List;

/**
 * REFUSALS of every call: each argument on both sides of each of its bounds, alone and two together;
 * the first in order is told, and what is refused changes nothing.
 */
public final class RefusalsTest {
    private static final int UNKNOWN = Check.UNKNOWN, OUTSIDE = Check.OUTSIDE, NOT = Check.NOT, FULL = Check.FULL;
    private static final int HUGE = Check.HUGE, TINY = Check.TINY, NONE = Check.NONE;
    // A call that is taken answers something else than a refusal.
    private static final int TAKEN = 0;
    private static final Check CHECK = new Check("RefusalsTest");

    private interface Maker {
        ToadsBefore make();
    }

    private interface Call {
        int on(ToadsBefore land, int[] with);
    }

    /** One argument: what is within its bounds (the first goes with all good others) and what is not. */
    private record Argument(int refusal, int[] good, int[] bad) { }

    public static void main(String[] args) {
        CHECK.sentence("REFUSALS, of several the first in this order: UNKNOWN, OUTSIDE, NOT, FULL; what is refused"
                + " changes nothing");
        lawCalls();
        bookCalls();
        oddsCalls();
        signCalls();
        countingCalls();
        claimCalls();
        townCalls();
        luckCalls();
        wordCalls();
        imageCalls();
        CHECK.finish();
    }

    // ---- lands

    /** Some of everything: 3 SHAKES till DAY 12, 3 SIGNS, 2 CLAIMS, 2 WORDS, KINDS 0 and 1 COUNTED, IMAGE 0 kept. */
    private static ToadsBefore busy() {
        ToadsBefore x = Check.land("rate 50;grow 30;after 70;days 9;near 2;moon 3 to 5;rain 2;");
        x.shake(4, 20, 3);
        x.shake(9, 21, 5);
        x.keep(0);
        x.shake(12, 29, 2);
        x.seed(31);
        x.watch(0, 20, 2, 60);
        x.watch(1, 21, 5, 390);
        x.rain(7, true);
        x.sign(0, 10, 20, 10);
        x.sign(1, 11, 21, 13);
        x.sign(1, 12, 21, 12);
        x.claim(3, 20, 1, 2, 4, 9, 40);
        x.claim(9, 28, 2, 1, 10, 14, 60);
        x.say(12, 29, 1);
        x.say(350, 1, 2);
        Check.feedAll(x, "rate 5;");
        return x;
    }

    private static ToadsBefore withFullText() {
        ToadsBefore x = busy();
        Check.feedAll(x, " ".repeat(153));
        return x;
    }

    private static ToadsBefore withFullBook() {
        ToadsBefore x = busy();
        for (int k = 3; k < 60; k++) {
            x.shake(12, k, 1);
        }
        return x;
    }

    private static ToadsBefore withFullSigns() {
        ToadsBefore x = busy();
        for (int i = 3; i < 100; i++) {
            x.sign(2, 5, 5, 6);
        }
        return x;
    }

    private static ToadsBefore withFullClaims() {
        ToadsBefore x = busy();
        for (int c = 2; c < 12; c++) {
            x.claim(0, 1, 1, 1, 2, 2, 5);
        }
        return x;
    }

    private static ToadsBefore withFullWords() {
        ToadsBefore x = busy();
        for (int i = 2; i < 12; i++) {
            x.say(1, 1, 1);
        }
        return x;
    }

    // ---- looking at a land

    /** All that a land tells of itself, THE TEXT and the IMAGES last, as looking at these changes it. */
    private static String look(ToadsBefore x) {
        StringBuilder seen = new StringBuilder();
        for (int what = 0; what < 8; what++) {
            seen.append(x.told(what)).append(' ').append(x.rate(what, 1)).append(' ').append(x.rate(what, 2)).append(' ');
        }
        for (int i = 0; i < 3; i++) {
            for (int what = 0; what < 6; what++) {
                seen.append(x.omen(i, what)).append(' ');
            }
        }
        for (int i = 0; i < 2; i++) {
            seen.append(x.score(i, 1)).append(' ').append(x.score(i, 2)).append(' ').append(x.judged(i, 1, 5, 1))
                    .append(' ');
        }
        seen.append(x.fault()).append(' ').append(x.scores());
        lookAtTheBook(x, seen);
        seen.append(" law ").append(x.law()).append(' ').append(x.told(0)).append(' ').append(x.told(1));
        for (int i = 0; i < 2; i++) {
            seen.append(" image ").append(x.goBack(i));
            lookAtTheBook(x, seen);
        }
        return seen.toString();
    }

    private static void lookAtTheBook(ToadsBefore x, StringBuilder seen) {
        for (int what = 0; what < 7; what++) {
            seen.append(' ').append(x.count(what));
        }
        int shakes = x.count(0);
        for (int k = 0; k < shakes; k += k < 3 ? 1 : 8) {
            for (int what = 0; what < 3; what++) {
                seen.append(' ').append(x.about(k, what));
            }
        }
        int seed = x.seed(0);
        x.seed(seed);
        seen.append(' ').append(seed);
    }

    // ---- trying a call

    private static int[] all(int... numbers) {
        return numbers;
    }

    private static Argument number(int refusal, int good, int least, int most) {
        List<Integer> bad = new ArrayList<>(List.of(TINY));
        if (least > TINY) {
            bad.add(least - 1);
        }
        if (most < HUGE) {
            bad.add(most + 1);
            bad.add(HUGE);
        }
        return new Argument(refusal, all(good, least, most), bad.stream().mapToInt(b -> b).toArray());
    }

    private static Argument place() {
        return number(UNKNOWN, 20, 0, 63);
    }

    private static Argument kind() {
        return number(UNKNOWN, 1, 0, 7);
    }

    private static Argument far() {
        return number(OUTSIDE, 2, 0, 7);
    }

    private static Argument size() {
        return number(OUTSIDE, 3, 1, 9);
    }

    private static Argument outside(int good, int least, int most) {
        return number(OUTSIDE, good, least, most);
    }

    private static boolean isRefusal(int answer) {
        return answer >= FULL && answer <= UNKNOWN;
    }

    /** With all arguments good the land answers last; with others the first refusal of theirs in order. */
    private static void tries(String name, Maker land, int last, Call call, Argument... arguments) {
        String asItWas = look(land.make());
        int[] good = new int[arguments.length];
        for (int i = 0; i < arguments.length; i++) {
            good[i] = arguments[i].good()[0];
        }
        oneTry(name, land, asItWas, last, call, good);
        for (int i = 0; i < arguments.length; i++) {
            for (int g : arguments[i].good()) {
                oneTry(name, land, asItWas, last, call, with(good, i, g));
            }
            for (int bad : arguments[i].bad()) {
                oneTry(name, land, asItWas, arguments[i].refusal(), call, with(good, i, bad));
            }
            for (int j = 0; j < i; j++) {
                // UNKNOWN is the greatest of the numbers of REFUSALS, as it is the first.
                int refusal = Math.max(arguments[i].refusal(), arguments[j].refusal());
                for (int bad : arguments[i].bad()) {
                    for (int other : arguments[j].bad()) {
                        oneTry(name, land, asItWas, refusal, call, with(with(good, i, bad), j, other));
                    }
                }
            }
        }
    }

    private static int[] with(int[] arguments, int i, int value) {
        int[] changed = arguments.clone();
        changed[i] = value;
        return changed;
    }

    private static void oneTry(String name, Maker land, String asItWas, int want, Call call, int[] arguments) {
        ToadsBefore x = land.make();
        int answer = call.on(x, arguments);
        StringBuilder asked = new StringBuilder(name).append('(');
        for (int i = 0; i < arguments.length; i++) {
            asked.append(i == 0 ? "" : ", ").append(arguments[i]);
        }
        asked.append(')');
        CHECK.due(asked.toString(), isRefusal(answer) ? answer : TAKEN, want);
        if (want != TAKEN) {
            CHECK.same("the land behind " + asked, look(x), asItWas);
        }
    }

    // ---- the calls

    private static void lawCalls() {
        Call feed = (x, a) -> x.feed(a[0], 0x5858585858585858L);
        tries("feed", RefusalsTest::busy, TAKEN, feed, outside(3, 1, 8));
        tries("feed into a full text", RefusalsTest::withFullText, FULL, feed, outside(3, 1, 8));
        tries("told", RefusalsTest::busy, TAKEN, (x, a) -> x.told(a[0]), outside(3, 0, 7));
        tries("cells", RefusalsTest::busy, TAKEN, (x, a) -> x.cells(a[0], a[1]), place(), far());
        tries("greater", RefusalsTest::busy, TAKEN, (x, a) -> x.greater(a[0]), size());
        tries("count", RefusalsTest::busy, TAKEN, (x, a) -> x.count(a[0]), outside(3, 0, 6));
    }

    private static void bookCalls() {
        Call shake = (x, a) -> x.shake(a[0], a[1], a[2]);
        Argument later = new Argument(OUTSIDE, all(30, 12, 399), all(TINY, -1, 400, HUGE));
        Argument earlier = new Argument(OUTSIDE, all(7, 0, 11), all(TINY, -1, 400, HUGE));
        tries("shake", RefusalsTest::busy, TAKEN, shake, later, place(), size());
        tries("shake ahead of THE DAY", RefusalsTest::busy, NOT, shake, earlier, place(), size());
        tries("shake, full", RefusalsTest::withFullBook, FULL, shake, later, place(), size());
        tries("shake ahead of THE DAY, full", RefusalsTest::withFullBook, NOT, shake, earlier, place(), size());
        tries("seed", RefusalsTest::busy, TAKEN, (x, a) -> x.seed(a[0]), outside(9, 0, HUGE));
        tries("run", RefusalsTest::busy, TAKEN, (x, a) -> x.run(a[0]), outside(9, 1, 399));
        tries("run, full", RefusalsTest::withFullBook, FULL, (x, a) -> x.run(a[0]), outside(9, 1, 399));
        tries("about", RefusalsTest::busy, TAKEN, (x, a) -> x.about(a[0], a[1]), number(UNKNOWN, 1, 0, 2),
                outside(1, 0, 2));
    }

    private static void oddsCalls() {
        Argument d = new Argument(OUTSIDE, all(12, 0, 19), all(TINY, -1, 20, 21, 399, 400, HUGE));
        Argument a = new Argument(OUTSIDE, all(20, 13, 30), all(TINY, NONE, 0, 12, 31, 400, HUGE));
        Argument b = new Argument(OUTSIDE, all(30, 20, 399), all(TINY, NONE, 0, 19, 400, HUGE));
        tries("odds", RefusalsTest::busy, TAKEN, (x, v) -> x.odds(v[0], v[1], v[2], v[3], v[4], v[5]),
                d, place(), far(), size(), new Argument(OUTSIDE, a.good(), all(TINY, 31, 400, HUGE)),
                new Argument(OUTSIDE, b.good(), all(TINY, 0, 400, HUGE)));
        // By themselves: those that are bad beside the others alone.
        tries("odds, a", RefusalsTest::busy, TAKEN, (x, v) -> x.odds(12, 20, 2, 3, v[0], 30), a);
        tries("odds, b", RefusalsTest::busy, TAKEN, (x, v) -> x.odds(12, 20, 2, 3, 20, v[0]), b);
    }

    private static void signCalls() {
        Call watch = (x, v) -> x.watch(v[0], v[1], v[2], v[3]);
        Argument a = new Argument(OUTSIDE, all(20, 0, 30), all(TINY, -2, 400, HUGE));
        Argument b = new Argument(OUTSIDE, all(30, 20, 399), all(TINY, -1, 0, 400, HUGE));
        tries("watch", RefusalsTest::busy, TAKEN, watch, kind(), place(), a, b);
        tries("watch, b below a", RefusalsTest::busy, TAKEN, (x, v) -> x.watch(1, 20, 20, v[0]),
                new Argument(OUTSIDE, all(20), all(19)));
        tries("watch, not COUNTED", RefusalsTest::busy, TAKEN, (x, v) -> x.watch(v[0], v[1], NONE, v[2]), kind(), place(),
                new Argument(OUTSIDE, all(TINY, -1, 0, 399, 400, HUGE), all()));
        tries("rain", RefusalsTest::busy, TAKEN, (x, v) -> x.rain(v[0], true), outside(9, 0, 399));
        tries("rain, not", RefusalsTest::busy, TAKEN, (x, v) -> x.rain(v[0], false), outside(9, 0, 399));
        Call sign = (x, v) -> x.sign(v[0], v[1], v[2], v[3]);
        Argument day = new Argument(OUTSIDE, all(20, 0, 25), all(TINY, -1, 400, HUGE));
        Argument written = new Argument(OUTSIDE, all(25, 20, 399), all(TINY, -1, 400, HUGE));
        tries("sign", RefusalsTest::busy, TAKEN, sign, kind(), day, place(), written);
        tries("sign, full", RefusalsTest::withFullSigns, FULL, sign, kind(), day, place(), written);
        tries("sign, written ahead of its DAY", RefusalsTest::withFullSigns, FULL, (x, v) -> x.sign(1, 20, 20, v[0]),
                new Argument(OUTSIDE, all(20), all(19, 0)));
        tries("omen", RefusalsTest::busy, TAKEN, (x, v) -> x.omen(v[0], v[1]), number(UNKNOWN, 1, 0, 2), outside(1, 0, 5));
    }

    private static void countingCalls() {
        Argument isCounted = new Argument(UNKNOWN, all(1, 0), all(TINY, -1, 8, HUGE));
        Argument isNot = new Argument(UNKNOWN, all(2, 7), all(TINY, -1, 8, HUGE));
        tries("rate", RefusalsTest::busy, TAKEN, (x, v) -> x.rate(v[0], v[1]), isCounted, outside(0, 0, 2));
        tries("rate, not COUNTED", RefusalsTest::busy, NOT, (x, v) -> x.rate(v[0], v[1]), isNot,
                new Argument(OUTSIDE, all(0), all(TINY, -1, 3, HUGE)));
        tries("rate, not COUNTED, but no RATE", RefusalsTest::busy, TAKEN, (x, v) -> x.rate(v[0], v[1]), isNot,
                new Argument(OUTSIDE, all(1, 2), all(TINY, -1, 3, HUGE)));
        Argument days = outside(5, 1, 60);
        tries("window", RefusalsTest::busy, TAKEN, (x, v) -> x.window(v[0], v[1], v[2], v[3]), number(UNKNOWN, 1, 0, 2),
                days, far(), outside(3, 0, 255));
        tries("chance", RefusalsTest::busy, TAKEN, (x, v) -> x.chance(v[0], v[1]), days,
                new Argument(OUTSIDE, all(3, 0, 1, 2), all(TINY, -1, 256, HUGE)));
        tries("chance, not COUNTED", RefusalsTest::busy, NOT, (x, v) -> x.chance(v[0], v[1]), days,
                new Argument(OUTSIDE, all(7, 4, 128, 255), all(TINY, -1, 256, HUGE)));
        Call table = (x, v) -> x.table(v[0], v[1], v[2], v[3], v[4]);
        tries("table", RefusalsTest::busy, TAKEN, table, isCounted, new Argument(OUTSIDE, all(5, 1, 58), days.bad()), far(),
                size(), outside(1, 0, 4));
        tries("table, not COUNTED on so many", RefusalsTest::busy, NOT, table,
                new Argument(UNKNOWN, all(0), isNot.bad()), new Argument(OUTSIDE, all(59, 60), days.bad()), far(), size(),
                outside(1, 0, 4));
        tries("table, not COUNTED", RefusalsTest::busy, NOT, table, isNot, days, far(), size(), outside(1, 0, 4));
        Call story = (x, v) -> x.story(v[0], v[1], v[2]);
        Argument behind = outside(5, 0, 60);
        tries("story", RefusalsTest::busy, TAKEN, story, isCounted, isCounted, behind);
        tries("story, j is not", RefusalsTest::busy, NOT, story, isNot, isCounted, behind);
        tries("story, k is not", RefusalsTest::busy, NOT, story, isCounted, isNot, behind);
        tries("story, neither is", RefusalsTest::busy, NOT, story, isNot, isNot, behind);
    }

    private static void claimCalls() {
        Call claim = (x, v) -> x.claim(v[0], v[1], v[2], v[3], v[4], v[5], v[6]);
        Argument t = new Argument(OUTSIDE, all(12, 0, 19), all(TINY, -1, 20, 399, HUGE));
        Argument a = new Argument(OUTSIDE, all(20, 13, 30), all(TINY, 31, 400, HUGE));
        Argument b = new Argument(OUTSIDE, all(30, 20, 399), all(TINY, 0, 400, HUGE));
        Argument q = outside(50, 0, 100);
        tries("claim", RefusalsTest::busy, TAKEN, claim, t, place(), far(), size(), a, b, q);
        tries("claim, full", RefusalsTest::withFullClaims, FULL, claim, t, place(), far(), size(), a, b, q);
        tries("claim, a", RefusalsTest::withFullClaims, FULL, (x, v) -> x.claim(12, 20, 2, 3, v[0], 30, 50),
                new Argument(OUTSIDE, all(13, 30), all(NONE, 0, 12, 31)));
        tries("claim, b", RefusalsTest::withFullClaims, FULL, (x, v) -> x.claim(12, 20, 2, 3, 20, v[0], 50),
                new Argument(OUTSIDE, all(20, 399), all(NONE, 0, 12, 19, 400)));
        tries("score", RefusalsTest::busy, TAKEN, (x, v) -> x.score(v[0], v[1]), number(UNKNOWN, 1, 0, 1),
                outside(1, 0, 2));
    }

    private static void townCalls() {
        Argument l = outside(7, 1, 999);
        Argument h = outside(100, 1, 9999);
        Argument line = outside(5000, 0, 1000001);
        Argument a = new Argument(OUTSIDE, all(20, 1, 30), all(TINY, 0, 31, 400, HUGE));
        Argument b = new Argument(OUTSIDE, all(30, 20, 399), all(TINY, 0, 400, HUGE));
        Argument what = outside(1, 0, 3);
        tries("town", RefusalsTest::busy, TAKEN, (x, v) -> x.town(v[0], v[1], v[2], v[3], v[4], v[5], v[6], v[7]), place(),
                size(), l, h, line, a, b, what);
        tries("bestLine", RefusalsTest::busy, TAKEN, (x, v) -> x.bestLine(v[0], v[1], v[2], v[3], v[4], v[5]), place(),
                size(), l, h, a, b);
    }

    private static void luckCalls() {
        Argument n = new Argument(OUTSIDE, all(9, 5, 200), all(TINY, -1, 0, 201, HUGE));
        Argument p = outside(300, 0, 1000);
        tries("luck", RefusalsTest::busy, TAKEN, (x, v) -> x.luck(v[0], v[1], v[2]), n, p,
                new Argument(OUTSIDE, all(5, 0, 9), all(TINY, -1, 10, 201, HUGE)));
        tries("luck, k beyond n", RefusalsTest::busy, TAKEN, (x, v) -> x.luck(v[0], 300, 5),
                new Argument(OUTSIDE, all(5), all(4)));
        Argument most = outside(50000, 0, 1000000);
        tries("lake", RefusalsTest::busy, TAKEN, (x, v) -> x.lake(v[0], v[1], v[2], v[3], v[4]), p, p, most, most,
                outside(0, 0, 1));
    }

    private static void wordCalls() {
        Call say = (x, v) -> x.say(v[0], v[1], v[2]);
        tries("say", RefusalsTest::busy, TAKEN, say, outside(9, 0, 398), place(), outside(1, 0, 2));
        tries("say, full", RefusalsTest::withFullWords, FULL, say, outside(9, 0, 398), place(), outside(1, 0, 2));
        Call judged = (x, v) -> x.judged(v[0], v[1], v[2], v[3]);
        tries("judged", RefusalsTest::busy, TAKEN, judged, new Argument(UNKNOWN, all(0), all(TINY, -1, 2, HUGE)), size(),
                outside(5, 1, 60), outside(1, 0, 1));
        // The WORD of DAY 350 sees 49 DAYS.
        tries("judged, to DAY 399", RefusalsTest::busy, TAKEN, judged, new Argument(UNKNOWN, all(1), all(TINY, -1, 2, HUGE)),
                size(), outside(5, 1, 49), outside(1, 0, 1));
    }

    private static void imageCalls() {
        tries("keep", RefusalsTest::busy, TAKEN, (x, v) -> x.keep(v[0]), number(UNKNOWN, 0, 0, 1));
        Argument kept = new Argument(UNKNOWN, all(0), all(TINY, -1, 2, HUGE));
        tries("goBack", RefusalsTest::busy, TAKEN, (x, v) -> x.goBack(v[0]), kept);
        tries("goBack to what was not kept", RefusalsTest::busy, NOT, (x, v) -> x.goBack(v[0]),
                new Argument(UNKNOWN, all(1), kept.bad()));
    }
}
