/** Counts answers that are not due, and tells each. */
final class Check {
    static final int NONE = -1, UNKNOWN = -1001, OUTSIDE = -1002, NOT = -1003, FULL = -1004;
    static final int HUGE = Integer.MAX_VALUE, TINY = Integer.MIN_VALUE;

    private final String name;
    private String sentence = "";
    private int asked = 0;
    private int wrong = 0;

    Check(String name) {
        this.name = name;
    }

    /** The words of the document that the next answers are held against. */
    void sentence(String words) {
        sentence = "\"" + words + "\": ";
    }

    void due(String call, long got, long want) {
        asked++;
        if (got != want) {
            wrong++;
            System.out.println(name + ": " + sentence + call + " answered " + got + ", due is " + want);
        }
    }

    void holds(String what, boolean is) {
        due(what, is ? 1 : 0, 1);
    }

    void same(String what, String got, String want) {
        holds(what + " is " + got + ", due is " + want, got.equals(want));
    }

    void finish() {
        System.out.println(name + ": " + asked + " answers, " + wrong + " not as due");
        if (wrong != 0) {
            System.exit(1);
        }
    }

    /** A new object with a text as THE LAW. */
    static ToadsBefore land(String law) {
        ToadsBefore land = new ToadsBefore();
        tell(land, law);
        return land;
    }

    /** Feeds a text eight bytes at a time and makes it THE LAW: what law() answered. */
    static int tell(ToadsBefore land, String text) {
        feedAll(land, text);
        return land.law();
    }

    static int feedAll(ToadsBefore land, String text) {
        int answer = 0;
        for (int from = 0; from < text.length(); from += 8) {
            String part = text.substring(from, Math.min(text.length(), from + 8));
            answer = land.feed(part.length(), packed(part));
        }
        return answer;
    }

    static long packed(String part) {
        long bytes = 0;
        for (int i = 0; i < part.length(); i++) {
            bytes = bytes << 8 | (part.charAt(i) & 255);
        }
        return bytes;
    }
}
