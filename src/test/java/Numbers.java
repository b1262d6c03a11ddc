/** Numbers that look mixed and are the same in every run. */
final class Numbers {
    private long state;

    Numbers(long seed) {
        state = seed;
    }

    int below(int bound) {
        return (int) ((bits() >>> 1) % bound);
    }

    int between(int least, int greatest) {
        return least + below(greatest - least + 1);
    }

    /** Mostly a number of the range, else one at or beyond its edges. */
    int near(int least, int greatest) {
        switch (below(24)) {
            case 0: return least - 1;
            case 1: return greatest + 1;
            case 2: return least;
            case 3: return greatest;
            case 4: return below(3) == 0 ? Integer.MIN_VALUE : least - 1 - below(70);
            case 5: return below(3) == 0 ? Integer.MAX_VALUE : greatest + 1 + below(70);
            default: return greatest < least ? least : between(least, greatest);
        }
    }

    long bits() {
        state += 0x9E3779B97F4A7C15L;
        long z = state;
        z = (z ^ (z >>> 30)) * 0xBF58476D1CE4E5B9L;
        z = (z ^ (z >>> 27)) * 0x94D049BB133111EBL;
        return z ^ (z >>> 31);
    }
}
