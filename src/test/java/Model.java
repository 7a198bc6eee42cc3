import java.util.ArrayList;
import java.util.List;
import java.util.NoSuchElementException;

/** The whole class a second time over lists, for runs of calls to be compared with. */
final class Model {
    private final List<Long> values = new ArrayList<>();
    private List<Long> proof = new ArrayList<>();

    int add(long v) {
        if (values.size() == 600) {
            throw new IllegalStateException();
        }
        values.add(v);
        return values.size();
    }

    int fill(int n, long v, long step) {
        if (n < 1 || n > 200) {
            throw new IllegalArgumentException();
        }
        if (values.size() + n > 600) {
            throw new IllegalStateException();
        }
        long next = v;
        for (int i = 0; i < n; i++) {
            values.add(next);
            next += step;
        }
        return values.size();
    }

    int cut(int n) {
        if (n < 0 || n > values.size()) {
            throw new IllegalArgumentException();
        }
        int gone = values.size() - n;
        values.subList(n, values.size()).clear();
        return gone;
    }

    long head(int n) {
        return Reference.head(row(0, n));
    }

    long part(int from, int to) {
        return Reference.head(row(from, to));
    }

    int path(int m, int n) {
        List<Long> row = row(0, n);
        if (m < 0 || m >= n) {
            throw new NoSuchElementException();
        }
        proof = Reference.path(m, row);
        return proof.size();
    }

    int steps(int m, int n) {
        List<Long> row = row(0, n);
        if (m < 1 || m > n) {
            throw new NoSuchElementException();
        }
        proof = Reference.steps(m, row);
        return proof.size();
    }

    long proof(int i) {
        if (i < 0 || i >= proof.size()) {
            throw new IndexOutOfBoundsException();
        }
        return proof.get(i);
    }

    long alter(int i, long v) {
        long before = proof(i);
        proof.set(i, v);
        return before;
    }

    int length(int n) {
        if (n < 0 || n > 40) {
            throw new IllegalArgumentException();
        }
        int before = proof.size();
        List<Long> next = new ArrayList<>();
        for (int i = 0; i < n; i++) {
            next.add(i < before ? proof.get(i) : 0L);
        }
        proof = next;
        return before;
    }

    boolean shows(int m, int n, long v, long head) {
        return Reference.shows(proof, m, n, v, head);
    }

    boolean grew(int m, int n, long before, long head) {
        return Reference.grew(proof, m, n, before, head);
    }

    int find(int n, long v) {
        return row(0, n).indexOf(v);
    }

    int count(int what) {
        if (what == 0) {
            return values.size();
        }
        if (what == 1) {
            return proof.size();
        }
        if (what == 2) {
            return Integer.toBinaryString(values.size()).replace("0", "").length();
        }
        return -1;
    }

    long value(int i) {
        return values.get(i);
    }

    private List<Long> row(int from, int to) {
        if (from < 0 || from > to || to > values.size()) {
            throw new NoSuchElementException();
        }
        return values.subList(from, to);
    }
}
