/**
 * Octagons over ints, always held by their tight bounds; the document ../shared/DOC.md says what each call answers.
 */
public final class TightOctagon {
    public static final int NONE = -1;
    public static final long NO_BOUND = -1099511627776L;

    private static final int OCTAGONS = 8;
    private static final int MOST_NUMBERS = 6;
    private static final long FARTHEST_SHIFT = 1099511627776L;
    private static final long GREATEST_INT = 2147483647L;

    private final int count;
    private final Octagon[] octagons;
    /** The value that the call of has looks for: kept, so that no call makes a new row. */
    private final long[] value;

    public TightOctagon(int k) {
        count = Math.max(1, Math.min(MOST_NUMBERS, k));
        octagons = new Octagon[OCTAGONS];
        for (int o = 0; o < OCTAGONS; o++) {
            octagons[o] = new Octagon(count);
        }
        value = new long[MOST_NUMBERS];
    }

    public int numbers() {
        return count;
    }

    public int all(int o) {
        if (!isOctagon(o)) {
            return NONE;
        }
        return octagons[o].fill() ? 0 : 1;
    }

    public int meet(int o, int i, int j, long c) {
        if (!isOctagon(o) || !isSigned(i) || !isSigned(j)) {
            return NONE;
        }
        return octagons[o].limit(i, j, c) ? 1 : 0;
    }

    public long bound(int o, int i, int j) {
        if (!isOctagon(o) || !isSigned(i) || !isSigned(j) || octagons[o].empty) {
            return NO_BOUND;
        }
        return octagons[o].tight(i, j);
    }

    public int nothing(int o) {
        if (!isOctagon(o)) {
            return NONE;
        }
        return octagons[o].empty ? 1 : 0;
    }

    public int forget(int o, int x) {
        if (!isOctagon(o) || !isNumber(x)) {
            return NONE;
        }
        return octagons[o].release(x) ? 1 : 0;
    }

    public int shift(int o, int x, long low, long high) {
        if (!isOctagon(o) || !isNumber(x) || low > high || low < -FARTHEST_SHIFT || high > FARTHEST_SHIFT) {
            return NONE;
        }
        octagons[o].move(x, low, high);
        return octagons[o].empty ? 1 : 0;
    }

    public int turn(int o, int x) {
        if (!isOctagon(o) || !isNumber(x)) {
            return NONE;
        }
        octagons[o].negate(x);
        return octagons[o].empty ? 1 : 0;
    }

    public int join(int o, int p) {
        if (!isOctagon(o) || !isOctagon(p)) {
            return NONE;
        }
        return octagons[o].cover(octagons[p]) ? 1 : 0;
    }

    public int widen(int o, int p) {
        if (!isOctagon(o) || !isOctagon(p)) {
            return NONE;
        }
        return octagons[o].loosen(octagons[p]) ? 1 : 0;
    }

    public int copy(int o, int p) {
        if (!isOctagon(o) || !isOctagon(p)) {
            return NONE;
        }
        boolean same = octagons[o].isLike(octagons[p]);
        octagons[o].become(octagons[p]);
        return same ? 1 : 0;
    }

    public int lies(int o, int p) {
        if (!isOctagon(o) || !isOctagon(p)) {
            return NONE;
        }
        return octagons[o].isWithin(octagons[p]) ? 1 : 0;
    }

    public boolean has(int o, int a, int b, int c, int d, int e, int f) {
        if (!isOctagon(o)) {
            return false;
        }
        value[0] = a;
        value[1] = b;
        value[2] = c;
        value[3] = d;
        value[4] = e;
        value[5] = f;
        return octagons[o].holds(value);
    }

    private static boolean isOctagon(int o) {
        return o >= 0 && o < OCTAGONS;
    }

    private boolean isNumber(int x) {
        return x >= 0 && x < count;
    }

    private boolean isSigned(int i) {
        return i >= 0 && i < 2 * count;
    }

    /**
     * One octagon: for all signed numbers i and j the greatest value of i + j.
     *
     * A bound of i alone is held as that of i + i, so that the same sums serve for bounds of one and of two; it is
     * even whenever it is tight. That of i and its other one is 0. Between calls all bounds are tight unless it is
     * empty; then they mean nothing.
     */
    private static final class Octagon {
        private final int size;
        private final long[] sums;
        private boolean empty;

        Octagon(int numbers) {
            size = 2 * numbers;
            sums = new long[size * size];
            fill();
        }

        /** Has all values then; tells whether it had less before. */
        boolean fill() {
            boolean changed = empty;
            empty = false;
            for (int i = 0; i < size; i++) {
                for (int j = 0; j <= i; j++) {
                    changed |= put(i, j, greatest(i, j));
                }
            }
            return changed;
        }

        long tight(int i, int j) {
            return i == j ? single(i) : get(i, j);
        }

        /** Keeps only values with i + j (or i, if j is i) at most c; tells whether there are less by that. */
        boolean limit(int i, int j, long c) {
            if (empty || c >= tight(i, j)) {
                return false;
            }
            // Tight bounds are reached: a value is left just when c is not below the least that i + j (or i) has.
            if (c < -tight(i ^ 1, j ^ 1)) {
                empty = true;
                return true;
            }
            put(i, j, i == j ? 2 * c : c);
            // All other bounds were tight, so only sums that use the new one, which end in i or j, can be less.
            goThrough(i >> 1);
            if (j != i) {
                goThrough(j >> 1);
            }
            settle();
            return true;
        }

        /** Lets number x be any int; tells whether there are more values by that. */
        boolean release(int x) {
            if (empty) {
                return false;
            }
            boolean changed = false;
            for (int i = 2 * x; i <= 2 * x + 1; i++) {
                for (int j = 0; j < size; j++) {
                    boolean same = j >> 1 == x;
                    changed |= put(i, j, same ? greatest(i, j) : greatest(i) + single(j));
                }
            }
            return changed;
        }

        /** Makes x more by low .. high, where that is an int. */
        void move(int x, long low, long high) {
            if (empty) {
                return;
            }
            int plus = 2 * x;
            int minus = plus + 1;
            // Over all whole numbers the raised bounds are reached, so they are tight before x is cut to ints again.
            raise(plus, high);
            raise(minus, -low);
            limit(plus, plus, greatest(plus));
            limit(minus, minus, greatest(minus));
        }

        /** Puts -x for x, where that is an int. */
        void negate(int x) {
            int plus = 2 * x;
            int minus = plus + 1;
            // The least int has no opposite among ints.
            limit(minus, minus, GREATEST_INT);
            for (int j = 0; j < size; j++) {
                if (j >> 1 != x) {
                    long kept = get(plus, j);
                    put(plus, j, get(minus, j));
                    put(minus, j, kept);
                }
            }
            long kept = get(plus, plus);
            put(plus, plus, get(minus, minus));
            put(minus, minus, kept);
        }

        /** Becomes the least octagon round itself and p; tells whether it is more by that. */
        boolean cover(Octagon p) {
            if (p.empty) {
                return false;
            }
            if (empty) {
                become(p);
                return true;
            }
            boolean changed = false;
            for (int i = 0; i < size; i++) {
                for (int j = 0; j <= i; j++) {
                    changed |= put(i, j, Math.max(get(i, j), p.get(i, j)));
                }
            }
            return changed;
        }

        /** Gives up the bounds that do not hold for p; tells whether it is more by that. */
        boolean loosen(Octagon p) {
            if (empty || p.empty) {
                return false;
            }
            boolean changed = false;
            for (int i = 0; i < size; i++) {
                for (int j = 0; j <= i; j++) {
                    if (get(i, j) < p.get(i, j)) {
                        // p has a value beyond this bound, and all of p is in the new set: so it is more.
                        changed |= put(i, j, greatest(i, j));
                    }
                }
            }
            if (changed) {
                close();
            }
            return changed;
        }

        void become(Octagon p) {
            empty = p.empty;
            System.arraycopy(p.sums, 0, sums, 0, sums.length);
        }

        boolean isLike(Octagon p) {
            return isWithin(p) && p.isWithin(this);
        }

        boolean isWithin(Octagon p) {
            if (empty || p.empty) {
                return empty;
            }
            for (int at = 0; at < sums.length; at++) {
                if (sums[at] > p.sums[at]) {
                    return false;
                }
            }
            return true;
        }

        boolean holds(long[] value) {
            if (empty) {
                return false;
            }
            for (int i = 0; i < size; i++) {
                for (int j = 0; j <= i; j++) {
                    if (signed(value, i) + signed(value, j) > get(i, j)) {
                        return false;
                    }
                }
            }
            return true;
        }

        private static long signed(long[] value, int i) {
            return (i & 1) == 0 ? value[i >> 1] : -value[i >> 1];
        }

        /** What i is at most for ints. */
        private static long greatest(int i) {
            return (i & 1) == 0 ? GREATEST_INT : GREATEST_INT + 1;
        }

        /** What i + j is at most for ints. */
        private static long greatest(int i, int j) {
            return i == (j ^ 1) ? 0 : greatest(i) + greatest(j);
        }

        private long get(int i, int j) {
            return sums[i * size + j];
        }

        /** Tells whether the bound was another one before. */
        private boolean put(int i, int j, long sum) {
            boolean changed = get(i, j) != sum;
            sums[i * size + j] = sum;
            sums[j * size + i] = sum;
            return changed;
        }

        /** The bound of i alone, when it is tight and so its double even. */
        private long single(int i) {
            return get(i, i) >> 1;
        }

        private void raise(int i, long by) {
            for (int j = 0; j < size; j++) {
                if (j >> 1 != i >> 1) {
                    put(i, j, get(i, j) + by);
                }
            }
            put(i, i, get(i, i) + 2 * by);
        }

        private void close() {
            for (int x = 0; 2 * x < size; x++) {
                goThrough(x);
            }
            settle();
        }

        /** Makes bounds less that number x, cancelled out of two others, makes less. */
        private void goThrough(int x) {
            goThroughSigned(2 * x);
            goThroughSigned(2 * x + 1);
        }

        private void goThroughSigned(int k) {
            for (int i = 0; i < size; i++) {
                long withK = get(i, k);
                for (int j = 0; j < size; j++) {
                    // i + j = (i + k) + (j - k)
                    long sum = withK + get(j, k ^ 1);
                    if (sum < get(i, j)) {
                        put(i, j, sum);
                    }
                }
            }
        }

        /**
         * Makes bounds tight, of a set that is not empty, that are the least ones that sums of others give: over whole
         * numbers only those of one can still be less, by a half, and those of two by the bounds of both.
         */
        private void settle() {
            for (int i = 0; i < size; i++) {
                put(i, i, get(i, i) & -2L);
            }
            for (int i = 0; i < size; i++) {
                for (int j = 0; j < i; j++) {
                    put(i, j, Math.min(get(i, j), single(i) + single(j)));
                }
            }
        }
    }
}
