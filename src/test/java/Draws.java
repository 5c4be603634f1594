/** DRAWS as the document tells them, counted out beside the class. */
final class Draws {
    private long seed;

    Draws(long seed) {
        this.seed = seed;
    }

    int of(int n) {
        seed = Math.floorMod(seed * 1103515245L + 12345L, 2147483648L);
        return (int) (seed / 65536 % n);
    }

    int size(int grow) {
        int size = 1;
        while (size < 9 && of(100) < grow) {
            size++;
        }
        return size;
    }

    long seed() {
        return seed;
    }

    /** THE SEED, so many DRAWS behind v. */
    static long seedBehind(long v, int draws) {
        Draws all = new Draws(v);
        for (int i = 0; i < draws; i++) {
            all.of(1);
        }
        return all.seed();
    }

    /** What the last of so many DRAWS behind v is, if it is one of n. */
    static int last(long v, int draws, int n) {
        return (int) (seedBehind(v, draws) / 65536 % n);
    }
}
