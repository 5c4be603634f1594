/**
 * A land that shakes by a law told in a text, its book of shakes, signs, claims, towns, words and images.
 * The words in capitals in the comments are those of ../shared/DOC.md.
 */
public final class ToadsBefore {
    public static final int NONE = -1, UNKNOWN = -1001, OUTSIDE = -1002, NOT = -1003, FULL = -1004;

    private static final int MILLION = 1000000;
    private static final int PLACES = 64, SIDE = 8, FARTHEST = 7;
    private static final int DAYS = 400, LAST_DAY = 399, MONTH = 28;
    private static final int GREATEST_SIZE = 9;
    private static final int TEXT_MOST = 160, SHAKES_MOST = 60, SIGNS_MOST = 100, CLAIMS_MOST = 12, WORDS_MOST = 12;
    private static final int KINDS = 8, ALL_KINDS = 255;
    private static final int WINDOW_MOST = 60, YEARS_MOST = 60, COMMITTEES_MOST = 200;
    private static final int LINE_MOST = 50000, LINE_STEP = 1000, NEVER_LEAVES = 1000001;
    private static final int IMAGES = 2;

    // What told() asks for, and where THE LAW holds it.
    private static final int RATE = 0, GROW = 1, AFTER = 2, AHEAD = 3, NEAR = 4, MOON_FROM = 5, MOON_TO = 6, RAIN = 7;
    private static final int LAW_VALUES = 8;
    private static final int[] AT_FIRST = {20, 40, 100, 10, 1, -1, -1, 0};
    private static final int[] LEAST = {0, 0, 0, 1, 0, 0, 0, 0};
    private static final int[] MOST = {999, 99, 999, 30, 7, 27, 27, 9};

    private static final int CANNOT_STAND = 1, BAD_NUMBER = 2, TOLD_ALREADY = 3;

    private static final int OWED_NOTHING = 0, OWED_MOON = 1, OWED_RAIN = 2;

    private final Law law = new Law();
    private final LawText text = new LawText();
    private final Book book = new Book();
    private final Images images = new Images();
    private final Forecast forecast = new Forecast(law, book);
    private final Signs signs = new Signs(law);
    private final Table signTable = new Table(signs, book);
    private final Claims claims = new Claims(forecast, book);
    private final Town townsfolk = new Town(forecast, book);
    private final Committees committees = new Committees();
    private final Words words = new Words(forecast);

    public ToadsBefore() {
    }

    // ---- the law, the book

    public int feed(int n, long bytes) {
        if (!within(n, 1, 8)) {
            return OUTSIDE;
        }
        if (!text.hasRoomFor(n)) {
            return FULL;
        }
        return text.append(n, bytes);
    }

    public int law() {
        return text.becomeLaw(law);
    }

    public int fault() {
        return text.placeOfFault();
    }

    public int told(int what) {
        return within(what, 0, LAW_VALUES - 1) ? law.value(what) : OUTSIDE;
    }

    public int cells(int p, int m) {
        if (!isPlace(p)) {
            return UNKNOWN;
        }
        return isDistance(m) ? howManyNear(p, m) : OUTSIDE;
    }

    public int greater(int z) {
        return isSize(z) ? law.shareFrom(z) : OUTSIDE;
    }

    public int shake(int d, int p, int size) {
        if (!isPlace(p)) {
            return UNKNOWN;
        }
        if (!isDay(d) || !isSize(size)) {
            return OUTSIDE;
        }
        if (book.today() > d) {
            return NOT;
        }
        if (book.isFull()) {
            return FULL;
        }
        return book.write(d, p, size);
    }

    public int seed(int v) {
        return v < 0 ? OUTSIDE : book.changeSeed(v);
    }

    public int run(int n) {
        if (!within(n, 1, LAST_DAY)) {
            return OUTSIDE;
        }
        return book.isFull() ? FULL : book.goOn(n, law);
    }

    public int about(int k, int what) {
        if (!book.has(k)) {
            return UNKNOWN;
        }
        switch (what) {
            case 0:
                return book.dayOf(k);
            case 1:
                return book.placeOf(k);
            case 2:
                return book.sizeOf(k);
            default:
                return OUTSIDE;
        }
    }

    public int count(int what) {
        switch (what) {
            case 0:
                return book.size();
            case 1:
                return signs.size();
            case 2:
                return claims.size();
            case 3:
                return words.size();
            case 4:
                return book.today();
            case 5:
                return text.size();
            case 6:
                return signs.rainyDays();
            default:
                return OUTSIDE;
        }
    }

    public int odds(int d, int p, int m, int z, int a, int b) {
        if (!isPlace(p)) {
            return UNKNOWN;
        }
        if (!isDistance(m) || !isSize(z) || !areDaysAfter(d, a, b)) {
            return OUTSIDE;
        }
        return forecast.ofShakes(d, p, m, z, a, b);
    }

    // ---- signs

    public int watch(int k, int p, int a, int b) {
        if (!isKind(k) || !isPlace(p)) {
            return UNKNOWN;
        }
        if (a != NONE && !areDays(a, b)) {
            return OUTSIDE;
        }
        return signs.watchKind(k, p, a, b);
    }

    public int rain(int d, boolean is) {
        return isDay(d) ? signs.changeRain(d, is) : OUTSIDE;
    }

    public int sign(int k, int d, int p, int written) {
        if (!isKind(k) || !isPlace(p)) {
            return UNKNOWN;
        }
        if (!areDays(d, written)) {
            return OUTSIDE;
        }
        return signs.isFull() ? FULL : signs.write(k, d, p, written);
    }

    public int omen(int i, int what) {
        if (!signs.has(i)) {
            return UNKNOWN;
        }
        switch (what) {
            case 0:
                return signs.kindOf(i);
            case 1:
                return signs.dayOf(i);
            case 2:
                return signs.placeOf(i);
            case 3:
                return signs.writtenOf(i);
            case 4:
                return signs.owedOf(i);
            case 5:
                return signs.isEven(i) ? 1 : 0;
            default:
                return OUTSIDE;
        }
    }

    public int rate(int k, int what) {
        if (!isKind(k)) {
            return UNKNOWN;
        }
        if (!within(what, 0, 2)) {
            return OUTSIDE;
        }
        if (what == 2) {
            return signs.countedDays(k);
        }
        if (what == 0 && !signs.isCounted(k)) {
            return NOT;
        }
        signs.findOddDays();
        return what == 0 ? signs.rateOf(k) : signs.oddDays(k);
    }

    public int window(int shake, int w, int m, int kinds) {
        if (!book.has(shake)) {
            return UNKNOWN;
        }
        if (!isWindow(w) || !isDistance(m) || !isKindSet(kinds)) {
            return OUTSIDE;
        }
        return signs.howManyAhead(book.dayOf(shake), book.placeOf(shake), w, m, kinds);
    }

    public int chance(int w, int kinds) {
        if (!isWindow(w) || !isKindSet(kinds)) {
            return OUTSIDE;
        }
        return signs.areAllCounted(kinds) ? signs.byChance(w, kinds) : NOT;
    }

    public int table(int k, int w, int m, int z, int i) {
        if (!isKind(k)) {
            return UNKNOWN;
        }
        if (!isWindow(w) || !isDistance(m) || !isSize(z) || !within(i, 0, 4)) {
            return OUTSIDE;
        }
        if (signs.countedDays(k) <= w) {
            return NOT;
        }
        signTable.fill(k, w, m, z);
        return i == 4 ? signTable.worth() : signTable.number(i);
    }

    public int story(int j, int k, int w) {
        if (!isKind(j) || !isKind(k)) {
            return UNKNOWN;
        }
        if (!within(w, 0, WINDOW_MOST)) {
            return OUTSIDE;
        }
        if (!signs.isCounted(j) || !signs.isCounted(k)) {
            return NOT;
        }
        return signs.againstStory(j, k, w);
    }

    // ---- claims, towns

    public int claim(int t, int p, int m, int z, int a, int b, int q) {
        if (!isPlace(p)) {
            return UNKNOWN;
        }
        if (!areDaysAfter(t, a, b) || !isDistance(m) || !isSize(z) || !within(q, 0, 100)) {
            return OUTSIDE;
        }
        return claims.isFull() ? FULL : claims.write(t, p, m, z, a, b, q);
    }

    public int score(int c, int what) {
        if (!claims.has(c)) {
            return UNKNOWN;
        }
        switch (what) {
            case 0:
                return claims.hitBy(c);
            case 1:
                return claims.aloneOf(c);
            case 2:
                return claims.scoreOf(c);
            default:
                return OUTSIDE;
        }
    }

    public int scores() {
        int sum = 0;
        for (int c = 0; c < claims.size(); c++) {
            sum += claims.scoreOf(c);
        }
        return sum;
    }

    public int town(int p, int z, int l, int h, int line, int a, int b, int what) {
        if (!isPlace(p)) {
            return UNKNOWN;
        }
        if (!areTownBounds(z, l, h, a, b) || !within(line, 0, NEVER_LEAVES) || !within(what, 0, 3)) {
            return OUTSIDE;
        }
        townsfolk.learn(p, z, a, b);
        townsfolk.liveBy(line, l, h, a, b);
        return townsfolk.outcome(what);
    }

    public int bestLine(int p, int z, int l, int h, int a, int b) {
        if (!isPlace(p)) {
            return UNKNOWN;
        }
        if (!areTownBounds(z, l, h, a, b)) {
            return OUTSIDE;
        }
        townsfolk.learn(p, z, a, b);
        return townsfolk.cheapestLine(l, h, a, b);
    }

    public int luck(int n, int p, int k) {
        if (!within(n, 1, COMMITTEES_MOST) || !isThousandth(p) || !within(k, 0, n)) {
            return OUTSIDE;
        }
        return committees.rightByLuck(n, p, k);
    }

    public int lake(int r, int t, int x, int y, int what) {
        if (!isThousandth(r) || !isThousandth(t) || !within(x, 0, MILLION) || !within(y, 0, MILLION)
                || !within(what, 0, 1)) {
            return OUTSIDE;
        }
        int years = committees.yearsToCount(r, t, x, y);
        return what == 0 ? years : committees.oddYears();
    }

    // ---- words, images

    public int say(int d, int p, int said) {
        if (!isPlace(p)) {
            return UNKNOWN;
        }
        if (!within(d, 0, LAST_DAY - 1) || !within(said, 0, 2)) {
            return OUTSIDE;
        }
        return words.isFull() ? FULL : words.write(d, p, said);
    }

    public int judged(int i, int z, int n, int what) {
        if (!words.has(i)) {
            return UNKNOWN;
        }
        if (!isSize(z) || !within(n, 1, WINDOW_MOST) || !within(what, 0, 1) || words.dayOf(i) + n > LAST_DAY) {
            return OUTSIDE;
        }
        int known = words.couldBeKnown(i, z, n);
        return what == 0 ? known : Integer.compare(words.saidOf(i), known);
    }

    public int keep(int i) {
        return images.has(i) ? images.keepImage(i, book) : UNKNOWN;
    }

    public int goBack(int i) {
        if (!images.has(i)) {
            return UNKNOWN;
        }
        return images.isKept(i) ? images.bringBack(i, book) : NOT;
    }

    // ---- bounds

    private static boolean within(int number, int least, int most) {
        return number >= least && number <= most;
    }

    private static boolean isPlace(int p) {
        return within(p, 0, PLACES - 1);
    }

    private static boolean isDistance(int m) {
        return within(m, 0, FARTHEST);
    }

    private static boolean isDay(int d) {
        return within(d, 0, LAST_DAY);
    }

    private static boolean areDays(int a, int b) {
        return isDay(a) && isDay(b) && a <= b;
    }

    private static boolean areDaysAfter(int d, int a, int b) {
        return isDay(d) && areDays(a, b) && a > d;
    }

    private static boolean isSize(int z) {
        return within(z, 1, GREATEST_SIZE);
    }

    private static boolean isKind(int k) {
        return within(k, 0, KINDS - 1);
    }

    private static boolean isKindSet(int kinds) {
        return within(kinds, 0, ALL_KINDS);
    }

    private static boolean isWindow(int w) {
        return within(w, 1, WINDOW_MOST);
    }

    private static boolean isThousandth(int p) {
        return within(p, 0, 1000);
    }

    private static boolean areTownBounds(int z, int l, int h, int a, int b) {
        return isSize(z) && within(l, 1, 999) && within(h, 1, 9999) && a >= 1 && areDays(a, b);
    }

    // ---- the land: what is m or less FAR from a PLACE is a square, cut at the borders

    private static int distance(int p, int q) {
        return Math.max(Math.abs(p / SIDE - q / SIDE), Math.abs(p % SIDE - q % SIDE));
    }

    private static int howManyNear(int p, int m) {
        return sharedLength(p / SIDE, m, p / SIDE, m) * sharedLength(p % SIDE, m, p % SIDE, m);
    }

    private static int howManyNearBoth(int p, int m, int q, int n) {
        return sharedLength(p / SIDE, m, q / SIDE, n) * sharedLength(p % SIDE, m, q % SIDE, n);
    }

    private static int sharedLength(int x, int m, int y, int n) {
        int low = Math.max(0, Math.max(x - m, y - n));
        int high = Math.min(SIDE - 1, Math.min(x + m, y + n));
        return Math.max(0, high - low + 1);
    }

    /** The PLACE that is the index-th, in order, of those n or less FAR from q. */
    private static int placeNear(int q, int n, int index) {
        int top = Math.max(0, q / SIDE - n);
        int left = Math.max(0, q % SIDE - n);
        int width = sharedLength(q % SIDE, n, q % SIDE, n);
        return width < 1 ? q : (top + index / width) * SIDE + left + index % width;
    }

    /** THE LAW, as at first or as a text without a FAULT told it. */
    private static final class Law {
        private final int[] values = AT_FIRST.clone();

        int value(int which) {
            return within(which, 0, values.length - 1) ? values[which] : NONE;
        }

        void become(int[] told) {
            System.arraycopy(told, 0, values, 0, Math.min(told.length, values.length));
        }

        /** GREATER: of a MILLION SHAKES, how many are of this SIZE or more. */
        int shareFrom(int size) {
            int share = MILLION;
            for (int step = 1; step < size && step < GREATEST_SIZE; step++) {
                share = share * value(GROW) / 100;
            }
            return share;
        }

        boolean isMoonOn(int day) {
            int from = value(MOON_FROM);
            int to = value(MOON_TO);
            if (from == NONE) {
                return false;
            }
            int age = day % MONTH;
            return from <= to ? from <= age && age <= to : from <= age || age <= to;
        }
    }

    /** THE TEXT: bytes as they were fed, read once into a law and empty then. */
    private static final class LawText {
        private static final int CLAUSES = 7, MOON_CLAUSE = 5, RAIN_CLAUSE = 6;
        private static final int BLANK = 32, SEMICOLON = 59, FIGURES_MOST = 3;

        private final int[] bytes = new int[TEXT_MOST];
        private final int[] draft = new int[LAW_VALUES];
        private final boolean[] isTold = new boolean[CLAUSES];
        private int length = 0;
        private int at = 0;
        private int clauses = 0;
        private int fault = 0;
        private int faultPlace = NONE;

        int size() {
            return length;
        }

        int placeOfFault() {
            return faultPlace;
        }

        boolean hasRoomFor(int n) {
            return n <= TEXT_MOST - length;
        }

        int append(int n, long value) {
            for (int i = n - 1; i >= 0 && length < bytes.length; i--) {
                bytes[length] = (int) (value >>> (8 * i)) & 255;
                length++;
            }
            return length;
        }

        int becomeLaw(Law law) {
            begin();
            skipBlanks();
            for (int step = 0; step < TEXT_MOST && at < length && fault == 0; step++) {
                readClause();
                skipBlanks();
            }
            length = 0;
            if (fault != 0) {
                return -10 - fault;
            }
            law.become(draft);
            return clauses;
        }

        private void begin() {
            System.arraycopy(AT_FIRST, 0, draft, 0, Math.min(AT_FIRST.length, draft.length));
            for (int clause = 0; clause < isTold.length; clause++) {
                isTold[clause] = false;
            }
            at = 0;
            clauses = 0;
            fault = 0;
            faultPlace = NONE;
        }

        private void readClause() {
            int start = at;
            int clause = clauseNamed(start, endOfWord(start));
            if (!within(clause, 0, isTold.length - 1)) {
                setFault(CANNOT_STAND, start);
                return;
            }
            if (isTold[clause]) {
                setFault(TOLD_ALREADY, start);
                return;
            }
            isTold[clause] = true;
            clauses++;
            at = endOfWord(start);
            if (clause == MOON_CLAUSE) {
                readNumber(MOON_FROM);
                readTo();
                readNumber(MOON_TO);
            } else {
                readNumber(clause == RAIN_CLAUSE ? RAIN : clause);
            }
            readSemicolon();
        }

        private void readNumber(int which) {
            skipBlanks();
            int start = at;
            int number = 0;
            while (at < length && isFigure(byteAt(at))) {
                // Figures behind the third make a FAULT anyway; without them no number grows too long for an int.
                if (at - start < FIGURES_MOST) {
                    number = number * 10 + byteAt(at) - '0';
                }
                at++;
            }
            if (at == start) {
                setFault(CANNOT_STAND, start);
            } else if (at - start > FIGURES_MOST || !isInBounds(which, number)) {
                setFault(BAD_NUMBER, start);
            } else {
                draft[which] = number;
            }
        }

        private static boolean isInBounds(int which, int number) {
            return within(which, 0, LAW_VALUES - 1) && within(number, LEAST[which], MOST[which]);
        }

        private void readTo() {
            skipBlanks();
            int end = endOfWord(at);
            if (isWord(at, end, "to")) {
                at = end;
            } else {
                setFault(CANNOT_STAND, at);
            }
        }

        private void readSemicolon() {
            skipBlanks();
            if (byteAt(at) == SEMICOLON) {
                at++;
            } else {
                setFault(CANNOT_STAND, at);
            }
        }

        /** Only the first FAULT stays: what is read behind it is read out of step. */
        private void setFault(int number, int place) {
            if (fault == 0) {
                fault = number;
                faultPlace = place;
            }
        }

        private void skipBlanks() {
            while (at < length && byteAt(at) == BLANK) {
                at++;
            }
        }

        private int byteAt(int place) {
            return within(place, 0, length - 1) && place < bytes.length ? bytes[place] : NONE;
        }

        private int endOfWord(int start) {
            int end = start;
            while (end < length && byteAt(end) >= 'a' && byteAt(end) <= 'z') {
                end++;
            }
            return end;
        }

        private int clauseNamed(int start, int end) {
            for (int clause = 0; clause < CLAUSES; clause++) {
                if (isWord(start, end, wordOf(clause))) {
                    return clause;
                }
            }
            return NONE;
        }

        private boolean isWord(int start, int end, String word) {
            if (end - start != word.length()) {
                return false;
            }
            for (int i = 0; i < word.length(); i++) {
                if (byteAt(start + i) != word.charAt(i)) {
                    return false;
                }
            }
            return true;
        }

        private static String wordOf(int clause) {
            switch (clause) {
                case 0:
                    return "rate";
                case 1:
                    return "grow";
                case 2:
                    return "after";
                case 3:
                    return "days";
                case 4:
                    return "near";
                case 5:
                    return "moon";
                default:
                    return "rain";
            }
        }

        private static boolean isFigure(int sign) {
            return sign >= '0' && sign <= '9';
        }
    }

    /** THE BOOK with THE DAY and THE SEED: what an IMAGE keeps. */
    private static final class Book {
        private final int[] days = new int[SHAKES_MOST];
        private final int[] places = new int[SHAKES_MOST];
        private final int[] sizes = new int[SHAKES_MOST];
        private int filled = 0;
        private int day = 0;
        private int seed = 0;

        int size() {
            return filled;
        }

        int today() {
            return day;
        }

        boolean isFull() {
            return filled >= SHAKES_MOST;
        }

        boolean has(int k) {
            return k >= 0 && k < filled && k < SHAKES_MOST;
        }

        int dayOf(int k) {
            return has(k) ? days[k] : NONE;
        }

        int placeOf(int k) {
            return has(k) ? places[k] : NONE;
        }

        int sizeOf(int k) {
            return has(k) ? sizes[k] : NONE;
        }

        int changeSeed(int next) {
            int before = seed;
            seed = next;
            return before;
        }

        int write(int onDay, int place, int size) {
            if (filled < 0 || isFull()) {
                return NONE;
            }
            days[filled] = onDay;
            places[filled] = place;
            sizes[filled] = size;
            day = onDay;
            filled++;
            return filled - 1;
        }

        void becomeLike(Book other) {
            System.arraycopy(other.days, 0, days, 0, SHAKES_MOST);
            System.arraycopy(other.places, 0, places, 0, SHAKES_MOST);
            System.arraycopy(other.sizes, 0, sizes, 0, SHAKES_MOST);
            filled = other.filled;
            day = other.day;
            seed = other.seed;
        }

        /** A RUN: how many SHAKES came. */
        int goOn(int n, Law law) {
            int before = filled;
            int last = Math.min(LAST_DAY, day + n);
            for (int next = day + 1; next <= last && !isFull(); next++) {
                day = next;
                liveThrough(next, law);
            }
            return filled - before;
        }

        private void liveThrough(int today, Law law) {
            int earlier = filled;
            if (draw(1000) < law.value(RATE)) {
                come(today, draw(PLACES), law);
            }
            for (int k = 0; k < earlier && !isFull(); k++) {
                int behind = today - dayOf(k);
                if (within(behind, 1, law.value(AHEAD)) && draw(1000) < law.value(AFTER) * sizeOf(k) / behind) {
                    come(today, drawNear(placeOf(k), law.value(NEAR)), law);
                }
            }
        }

        private int drawNear(int place, int n) {
            return placeNear(place, n, draw(howManyNear(place, n)));
        }

        private void come(int today, int place, Law law) {
            int size = 1;
            while (size < GREATEST_SIZE && draw(100) < law.value(GROW)) {
                size++;
            }
            write(today, place, size);
        }

        private int draw(int n) {
            seed = (int) ((seed * 1103515245L + 12345L) & 2147483647L);
            return n < 1 ? 0 : seed / 65536 % n;
        }

        boolean isSuch(int k, int p, int m, int z) {
            return has(k) && sizes[k] >= z && distance(places[k], p) <= m;
        }

        /** The first SHAKE of SIZE z or more, m or less FAR from p, on a DAY from a to b. */
        int firstSuch(int p, int m, int z, int a, int b) {
            for (int k = 0; k < filled; k++) {
                if (within(dayOf(k), a, b) && isSuch(k, p, m, z)) {
                    return k;
                }
            }
            return NONE;
        }

        int howManySuch(int p, int m, int z, int onDay) {
            int found = 0;
            for (int k = 0; k < filled; k++) {
                if (dayOf(k) == onDay && isSuch(k, p, m, z)) {
                    found++;
                }
            }
            return found;
        }
    }

    /** IMAGES of THE BOOK, THE DAY and THE SEED. */
    private static final class Images {
        private final Book first = new Book();
        private final Book second = new Book();
        private final boolean[] kept = new boolean[IMAGES];

        boolean has(int i) {
            return within(i, 0, kept.length - 1);
        }

        boolean isKept(int i) {
            return has(i) && kept[i];
        }

        int keepImage(int i, Book book) {
            if (!has(i)) {
                return NONE;
            }
            imageOf(i).becomeLike(book);
            kept[i] = true;
            return 1;
        }

        int bringBack(int i, Book book) {
            book.becomeLike(imageOf(i));
            return 1;
        }

        private Book imageOf(int i) {
            return i == 0 ? first : second;
        }
    }

    /** ODDS by THE LAW and by SHAKES of THE BOOK. */
    private static final class Forecast {
        private final Law law;
        private final Book book;

        Forecast(Law law, Book book) {
            this.law = law;
            this.book = book;
        }

        /** With d NONE no SHAKE is early enough: these are the ODDS without THE BOOK. */
        int ofShakes(int d, int p, int m, int z, int a, int b) {
            int share = law.shareFrom(z);
            long notMain = MILLION - chanceOfMain(p, m, share);
            long notOne = MILLION;
            for (int day = a; day <= b && day < DAYS; day++) {
                notOne = notOne * notMain / MILLION;
                for (int k = 0; k < book.size() && book.dayOf(k) <= d; k++) {
                    int behind = day - book.dayOf(k);
                    if (behind <= law.value(AHEAD)) {
                        notOne = notOne * (MILLION - chanceBehind(k, behind, p, m, share)) / MILLION;
                    }
                }
            }
            return (int) (MILLION - notOne);
        }

        private long chanceOfMain(int p, int m, int share) {
            long here = law.value(RATE) * 1000 * howManyNear(p, m) / PLACES;
            return here * share / MILLION;
        }

        private long chanceBehind(int k, int behind, int p, int m, int share) {
            int q = book.placeOf(k);
            int n = law.value(NEAR);
            int places = howManyNear(q, n);
            if (behind < 1 || places < 1) {
                return 0;
            }
            long one = Math.min(1000, law.value(AFTER) * book.sizeOf(k) / behind);
            long here = one * 1000 * howManyNearBoth(q, n, p, m) / places;
            return here * share / MILLION;
        }
    }

    /** SIGNS, where their KINDS are WATCHED and COUNTED, and the rain. */
    private static final class Signs {
        private final Law law;
        private final int[] kinds = new int[SIGNS_MOST];
        private final int[] days = new int[SIGNS_MOST];
        private final int[] places = new int[SIGNS_MOST];
        private final int[] written = new int[SIGNS_MOST];
        private int filled = 0;
        private final int[] watchedAt = new int[KINDS];
        private final int[] countedFrom = new int[KINDS];
        private final int[] countedTo = new int[KINDS];
        private final boolean[] isRainy = new boolean[DAYS];
        private int rainy = 0;
        private final int[] oddKinds = new int[DAYS];

        Signs(Law law) {
            this.law = law;
            for (int k = 0; k < KINDS; k++) {
                countedFrom[k] = NONE;
            }
        }

        int size() {
            return filled;
        }

        boolean isFull() {
            return filled >= SIGNS_MOST;
        }

        boolean has(int i) {
            return i >= 0 && i < filled && i < SIGNS_MOST;
        }

        int write(int kind, int day, int place, int writtenOn) {
            if (filled < 0 || isFull()) {
                return NONE;
            }
            kinds[filled] = kind;
            days[filled] = day;
            places[filled] = place;
            written[filled] = writtenOn;
            filled++;
            return filled - 1;
        }

        int kindOf(int i) {
            return has(i) ? kinds[i] : NONE;
        }

        int dayOf(int i) {
            return has(i) ? days[i] : NONE;
        }

        int placeOf(int i) {
            return has(i) ? places[i] : NONE;
        }

        int writtenOf(int i) {
            return has(i) ? written[i] : NONE;
        }

        int watchKind(int k, int place, int from, int to) {
            if (!isKind(k)) {
                return NONE;
            }
            int before = countedDays(k);
            watchedAt[k] = place;
            countedFrom[k] = from;
            countedTo[k] = to;
            return before;
        }

        boolean isCounted(int k) {
            return isKind(k) && countedFrom[k] != NONE;
        }

        int firstCounted(int k) {
            return isKind(k) ? countedFrom[k] : NONE;
        }

        int lastCounted(int k) {
            return isCounted(k) ? countedTo[k] : NONE;
        }

        int countedDays(int k) {
            return isCounted(k) ? countedTo[k] - countedFrom[k] + 1 : 0;
        }

        int watchPlace(int k) {
            return isKind(k) ? watchedAt[k] : NONE;
        }

        private boolean isCountedOn(int k, int day) {
            return isCounted(k) && within(day, countedFrom[k], countedTo[k]);
        }

        int changeRain(int day, boolean is) {
            boolean before = isRainyOn(day);
            if (isDay(day) && before != is) {
                isRainy[day] = is;
                rainy += is ? 1 : -1;
            }
            return before ? 1 : 0;
        }

        int rainyDays() {
            return rainy;
        }

        private boolean isRainyOn(int day) {
            return isDay(day) && isRainy[day];
        }

        int owedOf(int i) {
            int day = dayOf(i);
            if (law.isMoonOn(day)) {
                return OWED_MOON;
            }
            int reach = law.value(RAIN);
            for (int ahead = 0; ahead < reach; ahead++) {
                if (isRainyOn(day - ahead)) {
                    return OWED_RAIN;
                }
            }
            return OWED_NOTHING;
        }

        boolean isEven(int i) {
            int kind = kindOf(i);
            int day = dayOf(i);
            return isCountedOn(kind, day) && placeOf(i) == watchPlace(kind) && writtenOf(i) == day
                    && owedOf(i) == OWED_NOTHING;
        }

        /** To be called ahead of each question for ODD DAYS: SIGNS, rain, THE LAW may have changed. */
        void findOddDays() {
            for (int day = 0; day < DAYS; day++) {
                oddKinds[day] = 0;
            }
            for (int i = 0; i < filled; i++) {
                int day = dayOf(i);
                if (isDay(day) && isEven(i)) {
                    oddKinds[day] |= 1 << kindOf(i);
                }
            }
        }

        boolean isOdd(int k, int day) {
            return isDay(day) && (oddKinds[day] >> k & 1) == 1;
        }

        int oddDays(int k) {
            int found = 0;
            for (int day = 0; day < DAYS; day++) {
                if (isOdd(k, day)) {
                    found++;
                }
            }
            return found;
        }

        int rateOf(int k) {
            int counted = countedDays(k);
            return counted < 1 ? 0 : oddDays(k) * MILLION / counted;
        }

        int howManyAhead(int ofDay, int place, int w, int m, int kindSet) {
            int found = 0;
            for (int i = 0; i < filled; i++) {
                boolean isMeant = (kindSet >> kindOf(i) & 1) == 1;
                if (isMeant && within(ofDay - dayOf(i), 1, w) && distance(placeOf(i), place) <= m) {
                    found++;
                }
            }
            return found;
        }

        boolean areAllCounted(int kindSet) {
            for (int k = 0; k < KINDS; k++) {
                if ((kindSet >> k & 1) == 1 && !isCounted(k)) {
                    return false;
                }
            }
            return true;
        }

        int byChance(int w, int kindSet) {
            findOddDays();
            long none = MILLION;
            for (int k = 0; k < KINDS; k++) {
                long notOdd = (kindSet >> k & 1) == 1 ? MILLION - rateOf(k) : MILLION;
                for (int day = 0; day < w; day++) {
                    none = none * notOdd / MILLION;
                }
            }
            return (int) (MILLION - none);
        }

        int againstStory(int j, int k, int w) {
            findOddDays();
            int last = Math.min(lastCounted(j), lastCounted(k) - w);
            int against = 0;
            for (int day = Math.max(firstCounted(j), firstCounted(k)); day <= last; day++) {
                if (isOdd(j, day) && !isOddWithin(k, day, w)) {
                    against++;
                }
            }
            return against;
        }

        private boolean isOddWithin(int k, int day, int w) {
            for (int behind = 0; behind <= w; behind++) {
                if (isOdd(k, day + behind)) {
                    return true;
                }
            }
            return false;
        }
    }

    /** TABLE of a KIND: its COUNTED DAYS with a SHAKE behind them and without. */
    private static final class Table {
        private final Signs signs;
        private final Book book;
        private final boolean[] hasShakeBehind = new boolean[DAYS];
        private int oddAndShake = 0;
        private int oddAlone = 0;
        private int shakeAlone = 0;
        private int neither = 0;

        Table(Signs signs, Book book) {
            this.signs = signs;
            this.book = book;
        }

        int number(int i) {
            switch (i) {
                case 0:
                    return oddAndShake;
                case 1:
                    return oddAlone;
                case 2:
                    return shakeAlone;
                default:
                    return neither;
            }
        }

        int worth() {
            return thousandths(oddAndShake, oddAndShake + oddAlone) - thousandths(shakeAlone, shakeAlone + neither);
        }

        private static int thousandths(int some, int all) {
            return all < 1 ? 0 : 1000 * some / all;
        }

        void fill(int k, int w, int m, int z) {
            signs.findOddDays();
            findShakes(signs.watchPlace(k), w, m, z);
            oddAndShake = 0;
            oddAlone = 0;
            shakeAlone = 0;
            neither = 0;
            int last = signs.lastCounted(k) - w;
            for (int day = signs.firstCounted(k); day <= last; day++) {
                put(signs.isOdd(k, day), isDay(day) && hasShakeBehind[day]);
            }
        }

        private void put(boolean isOdd, boolean hasShake) {
            if (isOdd && hasShake) {
                oddAndShake++;
            } else if (isOdd) {
                oddAlone++;
            } else if (hasShake) {
                shakeAlone++;
            } else {
                neither++;
            }
        }

        private void findShakes(int place, int w, int m, int z) {
            for (int day = 0; day < DAYS; day++) {
                hasShakeBehind[day] = false;
            }
            for (int k = 0; k < book.size(); k++) {
                if (book.isSuch(k, place, m, z)) {
                    markAhead(book.dayOf(k), w);
                }
            }
        }

        private void markAhead(int ofDay, int w) {
            for (int ahead = 1; ahead <= w; ahead++) {
                if (isDay(ofDay - ahead)) {
                    hasShakeBehind[ofDay - ahead] = true;
                }
            }
        }
    }

    /** CLAIMS told ahead and their SCORES. */
    private static final class Claims {
        private final Forecast forecast;
        private final Book book;
        private final int[] toldOn = new int[CLAIMS_MOST];
        private final int[] places = new int[CLAIMS_MOST];
        private final int[] distances = new int[CLAIMS_MOST];
        private final int[] sizes = new int[CLAIMS_MOST];
        private final int[] firstDays = new int[CLAIMS_MOST];
        private final int[] lastDays = new int[CLAIMS_MOST];
        private final int[] hundredths = new int[CLAIMS_MOST];
        private int filled = 0;

        Claims(Forecast forecast, Book book) {
            this.forecast = forecast;
            this.book = book;
        }

        int size() {
            return filled;
        }

        boolean isFull() {
            return filled >= CLAIMS_MOST;
        }

        boolean has(int c) {
            return c >= 0 && c < filled && c < CLAIMS_MOST;
        }

        int write(int t, int p, int m, int z, int a, int b, int q) {
            if (filled < 0 || isFull()) {
                return NONE;
            }
            toldOn[filled] = t;
            places[filled] = p;
            distances[filled] = m;
            sizes[filled] = z;
            firstDays[filled] = a;
            lastDays[filled] = b;
            hundredths[filled] = q;
            filled++;
            return filled - 1;
        }

        int hitBy(int c) {
            return has(c) ? book.firstSuch(places[c], distances[c], sizes[c], firstDays[c], lastDays[c]) : NONE;
        }

        int aloneOf(int c) {
            return has(c)
                    ? forecast.ofShakes(toldOn[c], places[c], distances[c], sizes[c], firstDays[c], lastDays[c]) / 10000
                    : 0;
        }

        int scoreOf(int c) {
            if (!has(c)) {
                return 0;
            }
            int h = hitBy(c) == NONE ? 0 : 100;
            int alone = aloneOf(c);
            return (alone - h) * (alone - h) - (hundredths[c] - h) * (hundredths[c] - h);
        }
    }

    /** A TOWN: what it learns of its DAYS is the same for each LINE. */
    private static final class Town {
        private final Forecast forecast;
        private final Book book;
        private final int[] odds = new int[DAYS];
        private final int[] shakes = new int[DAYS];
        private int left = 0;
        private int inVain = 0;
        private int met = 0;
        private int cost = 0;

        Town(Forecast forecast, Book book) {
            this.forecast = forecast;
            this.book = book;
        }

        void learn(int p, int z, int a, int b) {
            for (int day = Math.max(0, a); day <= b && day < DAYS; day++) {
                odds[day] = forecast.ofShakes(day - 1, p, 1, z, day, day);
                shakes[day] = book.howManySuch(p, 1, z, day);
            }
        }

        void liveBy(int line, int costOfLeaving, int costOfShake, int a, int b) {
            left = 0;
            inVain = 0;
            met = 0;
            for (int day = Math.max(0, a); day <= b && day < DAYS; day++) {
                liveThrough(day, line);
            }
            cost = left * costOfLeaving + met * costOfShake;
        }

        private void liveThrough(int day, int line) {
            if (!isDay(day)) {
                return;
            }
            if (odds[day] < line) {
                met += shakes[day];
                return;
            }
            left++;
            if (shakes[day] == 0) {
                inVain++;
            }
        }

        int outcome(int what) {
            switch (what) {
                case 0:
                    return left;
                case 1:
                    return inVain;
                case 2:
                    return met;
                default:
                    return cost;
            }
        }

        int cheapestLine(int costOfLeaving, int costOfShake, int a, int b) {
            liveBy(NEVER_LEAVES, costOfLeaving, costOfShake, a, b);
            int best = NEVER_LEAVES;
            int least = cost;
            // From the highest down, so that of like ones the least stays.
            for (int line = LINE_MOST; line >= 0; line -= LINE_STEP) {
                liveBy(line, costOfLeaving, costOfShake, a, b);
                if (cost <= least) {
                    least = cost;
                    best = line;
                }
            }
            return best;
        }
    }

    /** LUCK of committees, and LAKES whose years are counted. */
    private static final class Committees {
        private final long[] dist = new long[COMMITTEES_MOST + 1];
        private final long[] other = new long[COMMITTEES_MOST + 1];
        private int foundOdd = NONE;

        int rightByLuck(int n, int p, int k) {
            begin(dist);
            for (int done = 1; done <= n; done++) {
                addOne(dist, done, p);
            }
            long sum = 0;
            for (int j = Math.max(0, k); j <= n && j < dist.length; j++) {
                sum += dist[j];
            }
            return (int) sum;
        }

        private static void begin(long[] row) {
            for (int j = 0; j < row.length; j++) {
                row[j] = j == 0 ? MILLION : 0;
            }
        }

        /** From the highest down, so that each still sees its neighbour of before. */
        private static void addOne(long[] row, int n, int p) {
            for (int j = Math.min(n, row.length - 1); j >= 0; j--) {
                long below = j > 0 ? row[j - 1] : 0;
                row[j] = (row[j] * (1000 - p) + below * p) / 1000;
            }
        }

        /** The least number of years, or NONE; oddYears() tells the c that belongs to it. */
        int yearsToCount(int r, int t, int x, int y) {
            begin(dist);
            begin(other);
            for (int n = 1; n <= YEARS_MOST; n++) {
                addOne(dist, n, r);
                addOne(other, n, t);
                foundOdd = leastOdd(n, x, y);
                if (foundOdd != NONE) {
                    return n;
                }
            }
            return NONE;
        }

        int oddYears() {
            return foundOdd;
        }

        private int leastOdd(int n, int x, int y) {
            long byChance = 0;
            long before = 0;
            int least = NONE;
            for (int c = Math.min(n, COMMITTEES_MOST); c >= 0; c--) {
                byChance += dist[c];
                before += other[c];
                if (byChance <= x && before >= y) {
                    least = c;
                }
            }
            return least;
        }
    }

    /** WORDS: what was SAID, beside what COULD BE KNOWN. */
    private static final class Words {
        private final Forecast forecast;
        private final int[] days = new int[WORDS_MOST];
        private final int[] places = new int[WORDS_MOST];
        private final int[] said = new int[WORDS_MOST];
        private int filled = 0;

        Words(Forecast forecast) {
            this.forecast = forecast;
        }

        int size() {
            return filled;
        }

        boolean isFull() {
            return filled >= WORDS_MOST;
        }

        boolean has(int i) {
            return i >= 0 && i < filled && i < WORDS_MOST;
        }

        int write(int day, int place, int what) {
            if (filled < 0 || isFull()) {
                return NONE;
            }
            days[filled] = day;
            places[filled] = place;
            said[filled] = what;
            filled++;
            return filled - 1;
        }

        int dayOf(int i) {
            return has(i) ? days[i] : NONE;
        }

        int saidOf(int i) {
            return has(i) ? said[i] : NONE;
        }

        int couldBeKnown(int i, int z, int n) {
            if (!has(i)) {
                return NONE;
            }
            int day = days[i];
            int byBook = forecast.ofShakes(day, places[i], 1, z, day + 1, day + n);
            int byLaw = forecast.ofShakes(NONE, places[i], 1, z, day + 1, day + n);
            if (byBook <= 2 * byLaw) {
                return 0;
            }
            return byBook <= 10 * byLaw ? 1 : 2;
        }
    }
}
