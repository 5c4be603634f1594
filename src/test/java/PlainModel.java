import java.util.ArrayList;
import java.util.HashMap;
import java.util.HashSet;
import java.util.List;
import java.util.Map;
import java.util.Set;
import java.util.TreeSet;

/**
 * The document once more, written as plainly as it goes and without a look at the speed: each answer is
 * found anew from lists of what was told. ModelTest holds the class against it.
 */
final class PlainModel {
    static final int NONE = -1, UNKNOWN = -1001, OUTSIDE = -1002, NOT = -1003, FULL = -1004;
    static final long MILLION = 1000000;

    record Shake(int day, int place, int size) { }

    record Sign(int kind, int day, int place, int written) { }

    record Claim(int t, int p, int m, int z, int a, int b, int q) { }

    record Word(int day, int place, int said) { }

    record Watch(int place, int from, int to) { }

    record Image(List<Shake> book, int day, long seed) { }

    Map<String, Integer> law = lawAtFirst();
    StringBuilder text = new StringBuilder();
    int fault = NONE;
    List<Shake> book = new ArrayList<>();
    int day = 0;
    long seed = 0;
    List<Sign> signs = new ArrayList<>();
    Map<Integer, Watch> watches = new HashMap<>();
    Set<Integer> rainy = new TreeSet<>();
    List<Claim> claims = new ArrayList<>();
    List<Word> words = new ArrayList<>();
    Image[] images = new Image[2];

    static Map<String, Integer> lawAtFirst() {
        Map<String, Integer> first = new HashMap<>();
        first.put("rate", 20);
        first.put("grow", 40);
        first.put("after", 100);
        first.put("days", 10);
        first.put("near", 1);
        first.put("moon", NONE);
        first.put("to", NONE);
        first.put("rain", 0);
        return first;
    }

    static boolean out(int v, int least, int most) {
        return v < least || v > most;
    }

    static int far(int p, int q) {
        int rows = Math.abs(p / 8 - q / 8);
        int inRows = Math.abs(p % 8 - q % 8);
        return rows > inRows ? rows : inRows;
    }

    static List<Integer> near(int p, int m) {
        List<Integer> found = new ArrayList<>();
        for (int q = 0; q < 64; q++) {
            if (far(p, q) <= m) {
                found.add(q);
            }
        }
        return found;
    }

    // ---- the text

    record Token(char sort, String signs, int at) { }

    static List<Token> tokens(String s) {
        List<Token> found = new ArrayList<>();
        int i = 0;
        while (i < s.length()) {
            char c = s.charAt(i);
            int end = i + 1;
            char sort = c;
            if (c >= 'a' && c <= 'z') {
                sort = 'W';
                while (end < s.length() && s.charAt(end) >= 'a' && s.charAt(end) <= 'z') {
                    end++;
                }
            } else if (c >= '0' && c <= '9') {
                sort = 'N';
                while (end < s.length() && s.charAt(end) >= '0' && s.charAt(end) <= '9') {
                    end++;
                }
            } else if (c != ';' && c != ' ') {
                sort = '?';
            }
            if (sort != ' ') {
                found.add(new Token(sort, s.substring(i, end), i));
            }
            i = end;
        }
        found.add(new Token('E', "", s.length()));
        return found;
    }

    static int least(String word) {
        return word.equals("days") ? 1 : 0;
    }

    static int most(String word) {
        switch (word) {
            case "rate": case "after": return 999;
            case "grow": return 99;
            case "days": return 30;
            case "near": return 7;
            case "moon": case "to": return 27;
            default: return 9;
        }
    }

    /** Each token must be one of what is awaited there: c a clause (or the end), n a number, t 'to', s ';'. */
    int law() {
        List<Token> all = tokens(text.toString());
        text.setLength(0);
        Map<String, Integer> next = lawAtFirst();
        Set<String> told = new HashSet<>();
        String wanted = "c";
        String name = "";
        fault = NONE;
        for (Token token : all) {
            char want = wanted.charAt(0);
            wanted = wanted.substring(1);
            int wrong = 0;
            if (want == 'c' && token.sort() == 'E') {
                break;
            } else if (want == 'c' && token.sort() == 'W' && next.containsKey(token.signs())
                    && !token.signs().equals("to")) {
                name = token.signs();
                wrong = told.add(name) ? 0 : 3;
                wanted = name.equals("moon") ? "ntns" : "ns";
            } else if (want == 'n' && token.sort() == 'N') {
                boolean isGood = token.signs().length() <= 3
                        && !out(Integer.parseInt(token.signs()), least(name), most(name));
                wrong = isGood ? 0 : 2;
                if (isGood) {
                    next.put(name, Integer.parseInt(token.signs()));
                }
            } else if (want == 't' && token.signs().equals("to")) {
                name = "to";
            } else if (want == 's' && token.sort() == ';') {
                wanted = "c";
            } else {
                wrong = 1;
            }
            if (wrong != 0) {
                fault = token.at();
                return -10 - wrong;
            }
        }
        law = next;
        return told.size();
    }

    int feed(int n, long bytes) {
        if (out(n, 1, 8)) {
            return OUTSIDE;
        }
        if (text.length() + n > 160) {
            return FULL;
        }
        for (int i = n - 1; i >= 0; i--) {
            text.append((char) (bytes >> (8 * i) & 255));
        }
        return text.length();
    }

    int fault() {
        return fault;
    }

    int told(int what) {
        String[] names = {"rate", "grow", "after", "days", "near", "moon", "to", "rain"};
        return out(what, 0, 7) ? OUTSIDE : law.get(names[what]);
    }

    int cells(int p, int m) {
        return out(p, 0, 63) ? UNKNOWN : out(m, 0, 7) ? OUTSIDE : near(p, m).size();
    }

    int greater(int z) {
        if (out(z, 1, 9)) {
            return OUTSIDE;
        }
        return z == 1 ? (int) MILLION : greater(z - 1) * law.get("grow") / 100;
    }

    int shake(int d, int p, int size) {
        if (out(p, 0, 63)) {
            return UNKNOWN;
        }
        if (out(d, 0, 399) || out(size, 1, 9)) {
            return OUTSIDE;
        }
        if (d < day) {
            return NOT;
        }
        if (book.size() == 60) {
            return FULL;
        }
        book.add(new Shake(d, p, size));
        day = d;
        return book.size() - 1;
    }

    int seed(int v) {
        if (v < 0) {
            return OUTSIDE;
        }
        int was = (int) seed;
        seed = v;
        return was;
    }

    int draw(int n) {
        seed = Math.floorMod(seed * 1103515245L + 12345L, 1L << 31);
        return (int) (seed / 65536 % n);
    }

    int run(int n) {
        if (out(n, 1, 399)) {
            return OUTSIDE;
        }
        if (book.size() == 60) {
            return FULL;
        }
        int before = book.size();
        for (int done = 0; done < n && day < 399 && book.size() < 60; done++) {
            day++;
            runDay();
        }
        return book.size() - before;
    }

    void runDay() {
        List<Shake> earlier = new ArrayList<>(book);
        if (draw(1000) < law.get("rate")) {
            int place = draw(64);
            book.add(new Shake(day, place, drawSize()));
        }
        for (Shake s : earlier) {
            int k = day - s.day();
            if (book.size() < 60 && k <= law.get("days") && draw(1000) < law.get("after") * s.size() / k) {
                List<Integer> cells = near(s.place(), law.get("near"));
                int place = cells.get(draw(cells.size()));
                book.add(new Shake(day, place, drawSize()));
            }
        }
    }

    int drawSize() {
        int size = 1;
        while (size < 9 && draw(100) < law.get("grow")) {
            size++;
        }
        return size;
    }

    int about(int k, int what) {
        if (out(k, 0, book.size() - 1)) {
            return UNKNOWN;
        }
        Shake s = book.get(k);
        return what == 0 ? s.day() : what == 1 ? s.place() : what == 2 ? s.size() : OUTSIDE;
    }

    int count(int what) {
        int[] all = {book.size(), signs.size(), claims.size(), words.size(), day, text.length(), rainy.size()};
        return out(what, 0, 6) ? OUTSIDE : all[what];
    }

    boolean badSpan(int d, int a, int b) {
        return out(d, 0, 399) || out(a, 0, 399) || out(b, 0, 399) || a <= d || b < a;
    }

    int odds(int d, int p, int m, int z, int a, int b) {
        if (out(p, 0, 63)) {
            return UNKNOWN;
        }
        if (out(m, 0, 7) || out(z, 1, 9) || badSpan(d, a, b)) {
            return OUTSIDE;
        }
        List<Shake> known = new ArrayList<>();
        for (Shake s : book) {
            if (s.day() <= d) {
                known.add(s);
            }
        }
        return oddsBy(known, p, m, z, a, b);
    }

    int oddsBy(List<Shake> known, int p, int m, int z, int a, int b) {
        long not = MILLION;
        long main = law.get("rate") * 1000L * near(p, m).size() / 64;
        main = main * greater(z) / MILLION;
        for (int on = a; on <= b; on++) {
            not = not * (MILLION - main) / MILLION;
            for (Shake s : known) {
                if (on - s.day() <= law.get("days")) {
                    not = not * (MILLION - after(s, on - s.day(), p, m, z)) / MILLION;
                }
            }
        }
        return (int) (MILLION - not);
    }

    long after(Shake s, int k, int p, int m, int z) {
        List<Integer> cells = near(s.place(), law.get("near"));
        int all = cells.size();
        cells.retainAll(near(p, m));
        long chance = Math.min(1000, law.get("after") * s.size() / k);
        return chance * 1000 * cells.size() / all * greater(z) / MILLION;
    }

    // ---- signs

    int watch(int k, int p, int a, int b) {
        if (out(k, 0, 7) || out(p, 0, 63)) {
            return UNKNOWN;
        }
        if (a != NONE && (out(a, 0, 399) || out(b, 0, 399) || b < a)) {
            return OUTSIDE;
        }
        int before = countedDays(k).size();
        if (a == NONE) {
            watches.remove(k);
        } else {
            watches.put(k, new Watch(p, a, b));
        }
        return before;
    }

    List<Integer> countedDays(int k) {
        List<Integer> days = new ArrayList<>();
        if (watches.containsKey(k)) {
            for (int d = watches.get(k).from(); d <= watches.get(k).to(); d++) {
                days.add(d);
            }
        }
        return days;
    }

    int rain(int d, boolean is) {
        if (out(d, 0, 399)) {
            return OUTSIDE;
        }
        int was = rainy.contains(d) ? 1 : 0;
        if (is) {
            rainy.add(d);
        } else {
            rainy.remove(d);
        }
        return was;
    }

    int sign(int k, int d, int p, int written) {
        if (out(k, 0, 7) || out(p, 0, 63)) {
            return UNKNOWN;
        }
        if (out(d, 0, 399) || out(written, 0, 399) || written < d) {
            return OUTSIDE;
        }
        if (signs.size() == 100) {
            return FULL;
        }
        signs.add(new Sign(k, d, p, written));
        return signs.size() - 1;
    }

    boolean moonOwns(int d) {
        int a = law.get("moon");
        int b = law.get("to");
        if (a == NONE) {
            return false;
        }
        int r = d % 28;
        if (b < a) {
            return !(r >= b + 1 && r <= a - 1);
        }
        return r >= a && r <= b;
    }

    int owed(Sign s) {
        if (moonOwns(s.day())) {
            return 1;
        }
        for (int d : rainy) {
            if (d <= s.day() && d > s.day() - law.get("rain")) {
                return 2;
            }
        }
        return 0;
    }

    boolean even(Sign s) {
        return countedDays(s.kind()).contains(s.day()) && s.place() == watches.get(s.kind()).place()
                && s.written() == s.day() && owed(s) == 0;
    }

    int omen(int i, int what) {
        if (out(i, 0, signs.size() - 1)) {
            return UNKNOWN;
        }
        if (out(what, 0, 5)) {
            return OUTSIDE;
        }
        Sign s = signs.get(i);
        int[] all = {s.kind(), s.day(), s.place(), s.written(), owed(s), even(s) ? 1 : 0};
        return all[what];
    }

    Set<Integer> oddDays(int k) {
        Set<Integer> days = new TreeSet<>();
        for (Sign s : signs) {
            if (s.kind() == k && even(s)) {
                days.add(s.day());
            }
        }
        return days;
    }

    int rate(int k, int what) {
        if (out(k, 0, 7)) {
            return UNKNOWN;
        }
        if (out(what, 0, 2)) {
            return OUTSIDE;
        }
        int odd = oddDays(k).size();
        int counted = countedDays(k).size();
        if (what == 0) {
            return counted == 0 ? NOT : (int) (odd * MILLION / counted);
        }
        return what == 1 ? odd : counted;
    }

    int window(int shake, int w, int m, int kinds) {
        if (out(shake, 0, book.size() - 1)) {
            return UNKNOWN;
        }
        if (out(w, 1, 60) || out(m, 0, 7) || out(kinds, 0, 255)) {
            return OUTSIDE;
        }
        Shake of = book.get(shake);
        int found = 0;
        for (Sign s : signs) {
            boolean isAhead = s.day() >= of.day() - w && s.day() < of.day();
            if (isAhead && far(s.place(), of.place()) <= m && (kinds & (1 << s.kind())) != 0) {
                found++;
            }
        }
        return found;
    }

    int chance(int w, int kinds) {
        if (out(w, 1, 60) || out(kinds, 0, 255)) {
            return OUTSIDE;
        }
        long not = MILLION;
        for (int k = 0; k < 8; k++) {
            if ((kinds & (1 << k)) != 0) {
                int rate = rate(k, 0);
                if (rate == NOT) {
                    return NOT;
                }
                for (int i = 0; i < w; i++) {
                    not = not * (MILLION - rate) / MILLION;
                }
            }
        }
        return (int) (MILLION - not);
    }

    int table(int k, int w, int m, int z, int i) {
        if (out(k, 0, 7)) {
            return UNKNOWN;
        }
        if (out(w, 1, 60) || out(m, 0, 7) || out(z, 1, 9) || out(i, 0, 4)) {
            return OUTSIDE;
        }
        List<Integer> days = countedDays(k);
        if (days.size() <= w) {
            return NOT;
        }
        int[] n = new int[4];
        for (int d : days.subList(0, days.size() - w)) {
            boolean shakes = false;
            for (Shake s : book) {
                shakes |= s.day() > d && s.day() <= d + w && s.size() >= z
                        && far(s.place(), watches.get(k).place()) <= m;
            }
            n[(oddDays(k).contains(d) ? 0 : 2) + (shakes ? 0 : 1)]++;
        }
        int odd = n[0] + n[1] == 0 ? 0 : 1000 * n[0] / (n[0] + n[1]);
        int others = n[2] + n[3] == 0 ? 0 : 1000 * n[2] / (n[2] + n[3]);
        return i == 4 ? odd - others : n[i];
    }

    int story(int j, int k, int w) {
        if (out(j, 0, 7) || out(k, 0, 7)) {
            return UNKNOWN;
        }
        if (out(w, 0, 60)) {
            return OUTSIDE;
        }
        if (!watches.containsKey(j) || !watches.containsKey(k)) {
            return NOT;
        }
        int against = 0;
        for (int d : oddDays(j)) {
            List<Integer> days = new ArrayList<>();
            for (int e = d; e <= d + w; e++) {
                days.add(e);
            }
            if (countedDays(k).containsAll(days)) {
                days.retainAll(oddDays(k));
                against += days.isEmpty() ? 1 : 0;
            }
        }
        return against;
    }

    // ---- claims, towns

    int claim(int t, int p, int m, int z, int a, int b, int q) {
        if (out(p, 0, 63)) {
            return UNKNOWN;
        }
        if (badSpan(t, a, b) || out(m, 0, 7) || out(z, 1, 9) || out(q, 0, 100)) {
            return OUTSIDE;
        }
        if (claims.size() == 12) {
            return FULL;
        }
        claims.add(new Claim(t, p, m, z, a, b, q));
        return claims.size() - 1;
    }

    int score(int c, int what) {
        if (out(c, 0, claims.size() - 1)) {
            return UNKNOWN;
        }
        if (out(what, 0, 2)) {
            return OUTSIDE;
        }
        Claim of = claims.get(c);
        int hit = NONE;
        for (int k = book.size() - 1; k >= 0; k--) {
            Shake s = book.get(k);
            if (s.size() >= of.z() && far(s.place(), of.p()) <= of.m() && !out(s.day(), of.a(), of.b())) {
                hit = k;
            }
        }
        int alone = odds(of.t(), of.p(), of.m(), of.z(), of.a(), of.b()) / 10000;
        int h = hit == NONE ? 0 : 100;
        int score = (alone - h) * (alone - h) - (of.q() - h) * (of.q() - h);
        return what == 0 ? hit : what == 1 ? alone : score;
    }

    int scores() {
        int sum = 0;
        for (int c = 0; c < claims.size(); c++) {
            sum += score(c, 2);
        }
        return sum;
    }

    boolean badTown(int z, int l, int h, int a, int b) {
        return out(z, 1, 9) || out(l, 1, 999) || out(h, 1, 9999) || out(a, 1, 399) || out(b, a, 399);
    }

    int town(int p, int z, int l, int h, int line, int a, int b, int what) {
        if (out(p, 0, 63)) {
            return UNKNOWN;
        }
        if (badTown(z, l, h, a, b) || out(line, 0, 1000001) || out(what, 0, 3)) {
            return OUTSIDE;
        }
        return lived(oddsOfDays(p, z, a, b), p, z, l, h, line, a)[what];
    }

    List<Integer> oddsOfDays(int p, int z, int a, int b) {
        List<Integer> all = new ArrayList<>();
        for (int d = a; d <= b; d++) {
            all.add(odds(d - 1, p, 1, z, d, d));
        }
        return all;
    }

    int[] lived(List<Integer> odds, int p, int z, int l, int h, int line, int a) {
        int[] n = new int[4];
        for (int i = 0; i < odds.size(); i++) {
            int on = a + i;
            int shakes = 0;
            for (Shake s : book) {
                if (s.day() == on && s.size() >= z && far(s.place(), p) <= 1) {
                    shakes++;
                }
            }
            if (odds.get(i) >= line) {
                n[0]++;
                n[1] += shakes == 0 ? 1 : 0;
                n[3] += l;
            } else {
                n[2] += shakes;
                n[3] += h * shakes;
            }
        }
        return n;
    }

    int bestLine(int p, int z, int l, int h, int a, int b) {
        if (out(p, 0, 63)) {
            return UNKNOWN;
        }
        if (badTown(z, l, h, a, b)) {
            return OUTSIDE;
        }
        List<Integer> odds = oddsOfDays(p, z, a, b);
        List<Integer> lines = new ArrayList<>();
        for (int line = 0; line <= 50; line++) {
            lines.add(line * 1000);
        }
        lines.add(1000001);
        int best = NONE;
        long least = Long.MAX_VALUE;
        for (int line : lines) {
            int cost = lived(odds, p, z, l, h, line, a)[3];
            if (cost < least) {
                least = cost;
                best = line;
            }
        }
        return best;
    }

    int luck(int n, int p, int k) {
        if (out(n, 1, 200) || out(p, 0, 1000) || out(k, 0, n)) {
            return OUTSIDE;
        }
        long[] dist = {MILLION};
        for (int i = 0; i < n; i++) {
            long[] next = new long[dist.length + 1];
            for (int j = 0; j < next.length; j++) {
                long same = j < dist.length ? dist[j] : 0;
                long less = j > 0 ? dist[j - 1] : 0;
                next[j] = (same * (1000 - p) + less * p) / 1000;
            }
            dist = next;
        }
        long sum = 0;
        for (int j = k; j < dist.length; j++) {
            sum += dist[j];
        }
        return (int) sum;
    }

    int lake(int r, int t, int x, int y, int what) {
        if (out(r, 0, 1000) || out(t, 0, 1000) || out(x, 0, 1000000) || out(y, 0, 1000000) || out(what, 0, 1)) {
            return OUTSIDE;
        }
        for (int n = 1; n <= 60; n++) {
            for (int c = 0; c <= n; c++) {
                if (luck(n, r, c) <= x && luck(n, t, c) >= y) {
                    return what == 0 ? n : c;
                }
            }
        }
        return NONE;
    }

    // ---- words, images

    int say(int d, int p, int said) {
        if (out(p, 0, 63)) {
            return UNKNOWN;
        }
        if (out(d, 0, 398) || out(said, 0, 2)) {
            return OUTSIDE;
        }
        if (words.size() == 12) {
            return FULL;
        }
        words.add(new Word(d, p, said));
        return words.size() - 1;
    }

    int judged(int i, int z, int n, int what) {
        if (out(i, 0, words.size() - 1)) {
            return UNKNOWN;
        }
        Word of = words.get(i);
        if (out(z, 1, 9) || out(n, 1, 60) || out(what, 0, 1) || of.day() + n > 399) {
            return OUTSIDE;
        }
        long with = odds(of.day(), of.place(), 1, z, of.day() + 1, of.day() + n);
        long without = oddsBy(new ArrayList<>(), of.place(), 1, z, of.day() + 1, of.day() + n);
        int known = with <= 2 * without ? 0 : with <= 10 * without ? 1 : 2;
        return what == 0 ? known : of.said() == known ? 0 : of.said() < known ? -1 : 1;
    }

    int keep(int i) {
        if (out(i, 0, 1)) {
            return UNKNOWN;
        }
        images[i] = new Image(new ArrayList<>(book), day, seed);
        return 1;
    }

    int goBack(int i) {
        if (out(i, 0, 1)) {
            return UNKNOWN;
        }
        if (images[i] == null) {
            return NOT;
        }
        book = new ArrayList<>(images[i].book());
        day = images[i].day();
        seed = images[i].seed();
        return 1;
    }
}
