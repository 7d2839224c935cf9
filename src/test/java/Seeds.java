/** Seeds for simulate() whose turns are known beforehand. */
final class Seeds {
    private Seeds() {
    }

    static long following(long x) {
        return x * 6364136223846793005L + 1442695040888963407L;
    }

    /** A seed whose first turn computes just this r. */
    static long seedFor(int r) {
        return seedAhead((long) r << 33);
    }

    /** A seed whose turns are: this r; a reader of this list begins; the reader 0 reads; and reads again. */
    static long seedForReading(int r, int list) {
        for (long low = 0; low < 1L << 33; low++) {
            long x = (long) r << 33 | low;
            long second = following(x);
            long third = following(second);
            if (isTurn(second, 9, 9, 12, list) && isTurn(third, 11, 15, 4, 0)
                    && isTurn(following(third), 11, 15, 4, 0)) {
                return seedAhead(x);
            }
        }
        throw new Error("no such seed");
    }

    /** A seed whose first turn computes just this x. */
    private static long seedAhead(long x) {
        return (x - 1442695040888963407L) * inverseOfMultiplier();
    }

    /** The inverse of the multiplier, by Newton's steps: each doubles the bits that are right. */
    private static long inverseOfMultiplier() {
        long multiplier = 6364136223846793005L;
        long inverse = multiplier;
        for (int step = 0; step < 6; step++) {
            inverse *= 2 - multiplier * inverse;
        }
        return inverse;
    }

    private static boolean isTurn(long x, int least, int greatest, int modulus, int want) {
        int r = (int) (x >>> 33);
        return r % 16 >= least && r % 16 <= greatest && r / 16 % modulus == want;
    }
}
