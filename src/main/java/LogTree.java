import java.util.NoSuchElementException;

/**
 * A row of leaves that only grows, its heads at all lengths, and proofs: that a leaf was there,
 * that a longer row begins with a shorter one. Words in capitals are the document's terms.
 */
public final class LogTree {
    private static final int MOST_LEAVES = 600;
    private static final int MOST_AT_ONCE = 200;
    private static final int LONGEST_PROOF = 40;
    private static final int LONGEST_ROW = 1 << 30;

    private static final long FIRST_FACTOR = -7046029254386353131L;
    private static final long SECOND_FACTOR = -4658895280553007687L;

    // The LEAF of each long stands here, not the long itself: no call ever asks for the long again.
    private final long[] leafRow;
    private int leafCount;

    private final long[] proofRow;
    private int proofLength;

    public LogTree() {
        leafRow = new long[MOST_LEAVES];
        leafCount = 0;
        proofRow = new long[LONGEST_PROOF];
        proofLength = 0;
    }

    public int add(long v) throws IllegalStateException {
        if (leafCount >= MOST_LEAVES) {
            throw new IllegalStateException();
        }
        leafRow[leafCount] = leafOf(v);
        leafCount++;
        return leafCount;
    }

    public int fill(int n, long v, long step) throws IllegalArgumentException, IllegalStateException {
        if (n < 1 || n > MOST_AT_ONCE) {
            throw new IllegalArgumentException();
        }
        if (leafCount + n > MOST_LEAVES) {
            throw new IllegalStateException();
        }
        for (int i = 0; i < n; i++) {
            leafRow[leafCount + i] = leafOf(v + i * step);
        }
        leafCount += n;
        return leafCount;
    }

    public int cut(int n) throws IllegalArgumentException {
        if (n < 0 || n > leafCount) {
            throw new IllegalArgumentException();
        }
        int gone = leafCount - n;
        leafCount = n;
        return gone;
    }

    public long head(int n) throws NoSuchElementException {
        if (n < 0 || n > leafCount) {
            throw new NoSuchElementException();
        }
        return headOf(leafRow, 0, n);
    }

    public long part(int from, int to) throws NoSuchElementException {
        if (from < 0 || from > to || to > leafCount) {
            throw new NoSuchElementException();
        }
        return headOf(leafRow, from, to);
    }

    public int path(int m, int n) throws NoSuchElementException {
        if (m < 0 || m >= n || n > leafCount) {
            throw new NoSuchElementException();
        }
        proofLength = pathLength(m, n);
        int from = 0;
        int to = n;
        // The walk goes down from the whole row, and a PATH tells the whole row's split last.
        for (int i = proofLength - 1; i >= 0; i--) {
            int middle = from + powerBelow(to - from);
            if (m < middle) {
                proofRow[i] = headOf(leafRow, middle, to);
                to = middle;
            } else {
                proofRow[i] = headOf(leafRow, from, middle);
                from = middle;
            }
        }
        return proofLength;
    }

    public int steps(int m, int n) throws NoSuchElementException {
        if (m < 1 || m > n || n > leafCount) {
            throw new NoSuchElementException();
        }
        proofLength = stepsLength(m, n);
        int from = 0;
        int to = n;
        for (int i = proofLength - 1; i >= 0; i--) {
            int middle = from + powerBelow(to - from);
            if (m == to) {
                // Only LEAVES that are not known leave a place for their own HEAD: the first one.
                proofRow[i] = headOf(leafRow, from, to);
            } else if (m <= middle) {
                proofRow[i] = headOf(leafRow, middle, to);
                to = middle;
            } else {
                proofRow[i] = headOf(leafRow, from, middle);
                from = middle;
            }
        }
        return proofLength;
    }

    public long proof(int i) throws IndexOutOfBoundsException {
        if (i < 0 || i >= proofLength) {
            throw new IndexOutOfBoundsException();
        }
        return proofRow[i];
    }

    public long alter(int i, long v) throws IndexOutOfBoundsException {
        if (i < 0 || i >= proofLength) {
            throw new IndexOutOfBoundsException();
        }
        long before = proofRow[i];
        proofRow[i] = v;
        return before;
    }

    public int length(int n) throws IllegalArgumentException {
        if (n < 0 || n > LONGEST_PROOF) {
            throw new IllegalArgumentException();
        }
        int before = proofLength;
        // What an earlier, longer PROOF left behind its end must not come back.
        for (int i = before; i < n; i++) {
            proofRow[i] = 0;
        }
        proofLength = n;
        return before;
    }

    public boolean shows(int m, int n, long v, long head) {
        if (m < 0 || m >= n || n > LONGEST_ROW) {
            return false;
        }
        if (proofLength != pathLength(m, n)) {
            return false;
        }
        return headByPath(proofRow, proofLength, m, n, leafOf(v)) == head;
    }

    public boolean grew(int m, int n, long before, long head) {
        if (m < 1 || m > n || n > LONGEST_ROW) {
            return false;
        }
        if (proofLength != stepsLength(m, n)) {
            return false;
        }
        return oldHeadBySteps(proofRow, proofLength, m, n, before) == before
                && newHeadBySteps(proofRow, proofLength, m, n, before) == head;
    }

    public int find(int n, long v) throws NoSuchElementException {
        if (n < 0 || n > leafCount) {
            throw new NoSuchElementException();
        }
        long leaf = leafOf(v);
        for (int i = 0; i < n; i++) {
            if (leafRow[i] == leaf) {
                return i;
            }
        }
        return -1;
    }

    public int count(int what) {
        switch (what) {
            case 0:
                return leafCount;
            case 1:
                return proofLength;
            case 2:
                return Integer.bitCount(leafCount);
            default:
                return -1;
        }
    }

    private static long mix(long h, long x) {
        long y = (h ^ x) * FIRST_FACTOR;
        long z = (y ^ (y >>> 29)) * SECOND_FACTOR;
        return z ^ (z >>> 32);
    }

    private static long leafOf(long v) {
        return mix(1, v);
    }

    private static long nodeOf(long a, long b) {
        return mix(mix(2, a), b);
    }

    /** The greatest power of two below n, for n from 2 on. */
    private static int powerBelow(int n) {
        int k = 1;
        while (k < LONGEST_ROW && k < n - k) {
            k += k;
        }
        return k;
    }

    /** Neither side is more than the power of two below n: of 600 LEAVES at most ten splits deep. */
    private static long headOf(long[] leaves, int from, int to) {
        int n = to - from;
        if (n <= 0) {
            return 0;
        }
        if (n == 1) {
            return leaves[from];
        }
        int middle = from + powerBelow(n);
        return nodeOf(headOf(leaves, from, middle), headOf(leaves, middle, to));
    }

    private static int pathLength(int m, int n) {
        int place = m;
        int size = n;
        int length = 0;
        while (size > 1 && length < LONGEST_PROOF) {
            int k = powerBelow(size);
            if (place < k) {
                size = k;
            } else {
                place -= k;
                size -= k;
            }
            length++;
        }
        return length;
    }

    private static int stepsLength(int m, int n) {
        int place = m;
        int size = n;
        boolean known = true;
        int length = 0;
        while (place != size && length < LONGEST_PROOF - 1) {
            int k = powerBelow(size);
            if (place <= k) {
                size = k;
            } else {
                place -= k;
                size -= k;
                known = false;
            }
            length++;
        }
        return known ? length : length + 1;
    }

    /**
     * The HEAD of n LEAVES that the first numbers of a PROOF make, put in the place of the PATH of m.
     * Each level uses up one number, so a PROOF's length bounds the depth.
     */
    private static long headByPath(long[] proof, int used, int m, int n, long leaf) {
        if (used <= 0 || n <= 1) {
            return leaf;
        }
        long other = proof[used - 1];
        int k = powerBelow(n);
        if (m < k) {
            return nodeOf(headByPath(proof, used - 1, m, k, leaf), other);
        }
        return nodeOf(other, headByPath(proof, used - 1, m - k, n - k, leaf));
    }

    /**
     * The HEAD of the first m LEAVES that a PROOF as long as the STEPS makes. Whether the last LEAVES
     * are known is told by the length: there is no number left for their HEAD, so it is the old one.
     */
    private static long oldHeadBySteps(long[] proof, int used, int m, int n, long before) {
        if (used <= 0) {
            return before;
        }
        long other = proof[used - 1];
        if (m >= n) {
            return other;
        }
        int k = powerBelow(n);
        if (m <= k) {
            return oldHeadBySteps(proof, used - 1, m, k, before);
        }
        return nodeOf(other, oldHeadBySteps(proof, used - 1, m - k, n - k, before));
    }

    /** The HEAD of all n LEAVES, by the same walk as the old one. */
    private static long newHeadBySteps(long[] proof, int used, int m, int n, long before) {
        if (used <= 0) {
            return before;
        }
        long other = proof[used - 1];
        if (m >= n) {
            return other;
        }
        int k = powerBelow(n);
        if (m <= k) {
            return nodeOf(newHeadBySteps(proof, used - 1, m, k, before), other);
        }
        return nodeOf(other, newHeadBySteps(proof, used - 1, m - k, n - k, before));
    }
}
