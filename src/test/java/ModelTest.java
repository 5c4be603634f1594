/** Runs of drawn calls, the class beside the plain model; the draws are always the same. */
public final class ModelTest {
    private static final int[] WILD = {Integer.MIN_VALUE, Integer.MAX_VALUE, -1004, -1002, -2, -1, 0, 1, 8, 9, 10, 60,
        61, 63, 64, 100, 101, 160, 200, 201, 255, 256, 399, 400, 999, 1000, 1001, 9999, 10000, 1000000, 1000001, 1000002};
    private static final String[] BITS = {"rate", "grow", "after", "days", "near", "moon", "rain", "to", ";", " ",
        "0", "7", "30", "31", "99", "100", "999", "1000", "000", "0007", "rates", "X", "\u00e9", "\0", "{", "`", "/", ":", "a"};

    private static final Check CHECK = new Check("ModelTest");
    private static long state = 88172645463325252L;

    private static int draw(int n) {
        state ^= state << 13;
        state ^= state >>> 7;
        state ^= state << 17;
        return (int) ((state >>> 11) % n);
    }

    private static boolean chance(int ofHundred) {
        return draw(100) < ofHundred;
    }

    private static int between(int least, int most) {
        if (chance(3)) {
            return WILD[draw(WILD.length)];
        }
        if (chance(6)) {
            return chance(50) ? least : most;
        }
        return least + draw(most - least + 1);
    }

    private static int place() {
        return chance(60) ? 27 + draw(3) : between(0, 63);
    }

    private static int size() {
        return chance(60) ? between(1, 3) : between(1, 9);
    }

    private static int day() {
        return chance(60) ? between(0, 60) : between(0, 399);
    }

    private static int kind() {
        return chance(70) ? draw(3) : between(0, 7);
    }

    public static void main(String[] args) {
        for (int run = 0; run < 150; run++) {
            oneRun(run);
        }
        CHECK.finish();
    }

    private static void oneRun(int run) {
        ToadsBefore land = new ToadsBefore();
        PlainModel model = new PlainModel();
        boolean isOfLaws = run % 5 == 0;
        for (int call = 0; call < 512; call++) {
            String name = "run " + run + ", call " + call + ", ";
            if (isOfLaws || chance(4)) {
                lawCall(name, land, model);
            } else if (chance(35)) {
                bookCall(name, land, model);
            } else if (chance(55)) {
                signCall(name, land, model);
            } else {
                otherCall(name, land, model);
            }
        }
    }

    private static String number(int least, int most) {
        int number = chance(95) ? least + draw(most - least + 1) : draw(1100);
        return (chance(15) ? "0" : "") + number;
    }

    private static String blanks() {
        return chance(80) ? "" : " ".repeat(1 + draw(3));
    }

    private static String clause(int which) {
        int[] most = {999, 99, 999, 30, 7, 27, 9};
        String words = BITS[which] + blanks() + number(which == 3 ? 1 : 0, most[which]) + blanks();
        if (which == 5) {
            words += "to" + blanks() + number(0, 27) + blanks();
        }
        return blanks() + words + ";" + blanks();
    }

    private static String lawText() {
        StringBuilder text = new StringBuilder();
        int clauses = draw(6);
        int first = draw(7);
        for (int i = 0; i < clauses; i++) {
            text.append(clause(chance(90) ? (first + i) % 7 : draw(7)));
        }
        if (chance(30)) {
            int at = draw(text.length() + 1);
            if (chance(50)) {
                text.insert(at, BITS[draw(BITS.length)]);
            } else {
                text.delete(at, Math.min(text.length(), at + 1 + draw(3)));
            }
        }
        return text.toString();
    }

    private static void feedText(String name, ToadsBefore land, PlainModel model, String text) {
        int at = 0;
        while (at < text.length()) {
            int end = Math.min(text.length(), at + 1 + draw(8));
            long bytes = Check.packed(text.substring(at, end)) | (end - at < 8 && chance(50) ? -1L << (8 * (end - at)) : 0);
            CHECK.due(name + "feed", land.feed(end - at, bytes), model.feed(end - at, bytes));
            at = end;
        }
    }

    private static void lawCall(String name, ToadsBefore land, PlainModel model) {
        if (chance(5)) {
            int n = between(1, 8);
            long bytes = state;
            CHECK.due(name + "feed " + n, land.feed(n, bytes), model.feed(n, bytes));
            return;
        }
        String text = lawText();
        feedText(name, land, model, text);
        CHECK.due(name + "count(5)", land.count(5), model.count(5));
        if (chance(90)) {
            CHECK.due(name + "law of '" + text + "'", land.law(), model.law());
            CHECK.due(name + "fault of '" + text + "'", land.fault(), model.fault());
            for (int what = 0; what < 8; what++) {
                CHECK.due(name + "told " + what + " of '" + text + "'", land.told(what), model.told(what));
            }
        }
    }

    private static void bookCall(String name, ToadsBefore land, PlainModel model) {
        int p = place();
        int m = chance(60) ? draw(3) : between(0, 7);
        int z = size();
        int d = day();
        switch (draw(13)) {
            case 0 -> CHECK.due(name + "told", land.told(m), model.told(m));
            case 1 -> CHECK.due(name + "cells", land.cells(p, m), model.cells(p, m));
            case 2 -> CHECK.due(name + "greater", land.greater(z), model.greater(z));
            case 3, 4 -> {
                int on = chance(80) ? model.day + draw(4) : d;
                CHECK.due(name + "shake", land.shake(on, p, z), model.shake(on, p, z));
            }
            case 5 -> {
                int v = chance(90) ? draw(Integer.MAX_VALUE) : WILD[draw(WILD.length)];
                CHECK.due(name + "seed", land.seed(v), model.seed(v));
            }
            case 6 -> {
                int n = chance(80) ? between(1, 10) : between(1, 399);
                CHECK.due(name + "run", land.run(n), model.run(n));
                for (int k = 0; k < model.book.size(); k++) {
                    for (int what = 0; what < 3; what++) {
                        CHECK.due(name + "about " + k + " " + what, land.about(k, what), model.about(k, what));
                    }
                }
            }
            case 7 -> {
                int k = between(0, 59);
                int what = between(0, 2);
                CHECK.due(name + "about", land.about(k, what), model.about(k, what));
            }
            case 8 -> {
                int what = between(0, 6);
                CHECK.due(name + "count", land.count(what), model.count(what));
            }
            case 9 -> {
                int i = between(0, 1);
                CHECK.due(name + "keep", land.keep(i), model.keep(i));
            }
            case 10 -> {
                int i = between(0, 1);
                CHECK.due(name + "goBack", land.goBack(i), model.goBack(i));
            }
            default -> {
                int from = chance(90) ? Math.min(d, 398) + 1 + draw(5) : day();
                int to = chance(90) ? from + draw(12) : day();
                String call = name + "odds " + d + " " + p + " " + m + " " + z + " " + from + " " + to;
                CHECK.due(call, land.odds(d, p, m, z, from, to), model.odds(d, p, m, z, from, to));
            }
        }
    }

    private static void signCall(String name, ToadsBefore land, PlainModel model) {
        int k = kind();
        int p = place();
        int d = day();
        int w = chance(60) ? between(1, 6) : between(0, 60);
        int m = chance(60) ? draw(3) : between(0, 7);
        int z = size();
        switch (draw(12)) {
            case 0 -> {
                int from = chance(15) ? -1 : day();
                int to = chance(80) ? between(60, 399) : day();
                CHECK.due(name + "watch", land.watch(k, p, from, to), model.watch(k, p, from, to));
            }
            case 1 -> {
                boolean is = chance(40);
                CHECK.due(name + "rain", land.rain(d, is), model.rain(d, is));
            }
            case 2, 3, 4 -> {
                int at = model.watches.containsKey(k) && chance(70) ? model.watches.get(k).place() : p;
                int written = chance(80) ? d : chance(80) ? Math.min(d, 390) + draw(9) : day();
                CHECK.due(name + "sign", land.sign(k, d, at, written), model.sign(k, d, at, written));
            }
            case 5 -> {
                int i = model.signs.isEmpty() || chance(5) ? between(0, 100) : draw(model.signs.size());
                for (int what = -1; what < 7; what++) {
                    CHECK.due(name + "omen " + what, land.omen(i, what), model.omen(i, what));
                }
            }
            case 6, 7 -> {
                int what = between(0, 2);
                CHECK.due(name + "rate", land.rate(k, what), model.rate(k, what));
            }
            case 8 -> {
                int shake = between(0, Math.max(0, model.book.size() - 1));
                int kinds = between(0, 255);
                CHECK.due(name + "window", land.window(shake, w, m, kinds), model.window(shake, w, m, kinds));
            }
            case 9 -> {
                int kinds = chance(70) ? draw(8) : between(0, 255);
                CHECK.due(name + "chance", land.chance(w, kinds), model.chance(w, kinds));
            }
            case 10 -> {
                for (int i = 0; i < 5; i++) {
                    CHECK.due(name + "table " + i, land.table(k, w, m, z, i), model.table(k, w, m, z, i));
                }
                int i = between(0, 4);
                CHECK.due(name + "table " + i, land.table(k, w, m, z, i), model.table(k, w, m, z, i));
            }
            default -> {
                int j = kind();
                CHECK.due(name + "story", land.story(j, k, w), model.story(j, k, w));
            }
        }
    }

    private static void otherCall(String name, ToadsBefore land, PlainModel model) {
        switch (draw(9)) {
            case 0 -> claimCall(name, land, model);
            case 1, 2 -> {
                int c = model.claims.isEmpty() || chance(5) ? between(0, 12) : draw(model.claims.size());
                int what = between(0, 2);
                CHECK.due(name + "score " + what, land.score(c, what), model.score(c, what));
                CHECK.due(name + "scores", land.scores(), model.scores());
            }
            case 3, 4 -> townCall(name, land, model);
            case 5 -> {
                int n = between(1, 200);
                int p = between(0, 1000);
                int k = chance(95) ? between(0, Math.max(1, n)) : between(0, 200);
                CHECK.due(name + "luck", land.luck(n, p, k), model.luck(n, p, k));
            }
            case 6 -> lakeCall(name, land, model);
            case 7 -> {
                int d = chance(95) ? day() : 398 + draw(2);
                int p = place();
                int said = between(0, 2);
                CHECK.due(name + "say", land.say(d, p, said), model.say(d, p, said));
            }
            default -> {
                int i = model.words.isEmpty() || chance(5) ? between(0, 12) : draw(model.words.size());
                int z = size();
                int n = chance(50) ? between(1, 5) : between(1, 60);
                int what = between(0, 1);
                CHECK.due(name + "judged", land.judged(i, z, n, what), model.judged(i, z, n, what));
            }
        }
    }

    private static void claimCall(String name, ToadsBefore land, PlainModel model) {
        int t = day();
        int p = place();
        int m = between(0, 7);
        int z = size();
        int a = chance(90) ? Math.min(t, 398) + 1 + draw(4) : day();
        int b = chance(90) ? a + draw(30) : day();
        int q = between(0, 100);
        CHECK.due(name + "claim", land.claim(t, p, m, z, a, b, q), model.claim(t, p, m, z, a, b, q));
    }

    private static void townCall(String name, ToadsBefore land, PlainModel model) {
        int p = place();
        int z = size();
        int l = chance(60) ? between(1, 20) : between(1, 999);
        int h = chance(60) ? between(1, 999) : between(1, 9999);
        int line = chance(70) ? between(0, 50000) : between(0, 1000001);
        int a = between(1, 60);
        int b = chance(90) ? Math.max(0, Math.min(a, 300)) + draw(99) : day();
        for (int what = 0; what < 4; what++) {
            CHECK.due(name + "town " + what, land.town(p, z, l, h, line, a, b, what),
                    model.town(p, z, l, h, line, a, b, what));
        }
        int what = between(0, 3);
        CHECK.due(name + "town", land.town(p, z, l, h, line, a, b, what), model.town(p, z, l, h, line, a, b, what));
        CHECK.due(name + "bestLine", land.bestLine(p, z, l, h, a, b), model.bestLine(p, z, l, h, a, b));
    }

    private static void lakeCall(String name, ToadsBefore land, PlainModel model) {
        int r = chance(70) ? between(0, 300) : between(0, 1000);
        int t = chance(70) ? between(300, 1000) : between(0, 1000);
        int x = chance(70) ? between(0, 100000) : between(0, 1000000);
        int y = chance(70) ? between(800000, 999000) : between(0, 1000000);
        int what = between(0, 1);
        CHECK.due(name + "lake", land.lake(r, t, x, y, what), model.lake(r, t, x, y, what));
    }
}
