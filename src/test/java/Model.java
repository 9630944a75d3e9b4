import java.math.BigInteger;
import java.util.ArrayList;
import java.util.Comparator;
import java.util.List;
import java.util.Map;
import java.util.TreeMap;

/**
 * The document once more, written for plainness and with the library, to compare the program with.
 * It throws as the document says.
 */
final class Model {
    private static final class Batch {
        final int valid;
        final int known;
        int state = 0;
        int reverses = -1;
        int reversedBy = -1;
        boolean fails = false;
        List<long[]> rows = new ArrayList<>();

        Batch(int valid, int known) {
            this.valid = valid;
            this.known = known;
        }
    }

    private final List<Integer> kinds = new ArrayList<>();
    private final List<Batch> batches = new ArrayList<>();
    /** Of each row: batch, account, cents, valid day, known day. */
    private final List<long[]> ledger = new ArrayList<>();
    private final Map<List<Integer>, Integer> parts = new TreeMap<>(
            Comparator.comparing((List<Integer> key) -> key.get(0)).thenComparing(key -> key.get(1)));
    private final Map<Integer, Integer> costs = new TreeMap<>();
    private int closed = -1;
    private int latest = -1;
    private int wrong = 0;
    private int named = -1;
    private int failures = 0;

    private static boolean in(long number, long least, long most) {
        return least <= number && number <= most;
    }

    private static boolean day(int day) {
        return in(day, 0, 100000);
    }

    private boolean hasAccount(int account) {
        return in(account, 0, kinds.size() - 1);
    }

    private boolean hasBatch(int batch, int state) {
        return in(batch, 0, batches.size() - 1) && batches.get(batch).state == state;
    }

    private static void argument(boolean holds) {
        if (!holds) {
            throw new IllegalArgumentException();
        }
    }

    private static void state(boolean holds) {
        if (!holds) {
            throw new IllegalStateException();
        }
    }

    private static void index(boolean holds) {
        if (!holds) {
            throw new IndexOutOfBoundsException();
        }
    }

    int account(int kind) {
        argument(in(kind, 0, 5));
        state(kinds.size() < 12);
        kinds.add(kind);
        return kinds.size() - 1;
    }

    int batch(int valid, int known) {
        argument(day(valid) && day(known));
        state(batches.size() < 100);
        batches.add(new Batch(valid, known));
        return batches.size() - 1;
    }

    boolean row(int batch, int account, long cents) {
        if (!hasBatch(batch, 0) || !hasAccount(account) || !in(cents, -1000000000, 1000000000) || cents == 0
                || batches.get(batch).rows.size() == 20) {
            return false;
        }
        batches.get(batch).rows.add(new long[] {account, cents});
        return true;
    }

    boolean fails(int batch, boolean is) {
        if (!hasBatch(batch, 0)) {
            return false;
        }
        batches.get(batch).fails = is;
        return true;
    }

    private int fault(Batch batch) {
        List<Boolean> holds = List.of(
                batch.rows.size() > 0,
                batch.rows.stream().mapToLong(row -> row[1]).sum() == 0,
                batch.known > closed,
                batch.known >= latest,
                ledger.size() + batch.rows.size() <= 400);
        return holds.indexOf(false) + 1;
    }

    private int nameOf(Batch batch) {
        Map<Long, Long> sums = new TreeMap<>();
        for (long[] row : batch.rows) {
            sums.merge(row[0], row[1], Long::sum);
        }
        long most = sums.values().stream().mapToLong(Math::abs).max().getAsLong();
        return sums.entrySet().stream().filter(sum -> Math.abs(sum.getValue()) == most)
                .findFirst().get().getKey().intValue();
    }

    private void enter(int number) {
        Batch batch = batches.get(number);
        for (long[] row : batch.rows) {
            ledger.add(new long[] {number, row[0], row[1], batch.valid, batch.known});
        }
        batch.state = 1;
        latest = batch.known;
    }

    int post(int number) {
        argument(hasBatch(number, 0));
        Batch batch = batches.get(number);
        int fault = fault(batch);
        if (fault != 0) {
            wrong = fault;
            named = fault == 2 ? nameOf(batch) : -1;
            batch.state = 2;
            batch.rows = new ArrayList<>();
            throw new IllegalStateException();
        }
        if (batch.fails) {
            batch.fails = false;
            failures++;
            throw new UnsupportedOperationException();
        }
        enter(number);
        return 1;
    }

    int reverse(int number, int known) {
        argument(hasBatch(number, 1) && day(known));
        Batch batch = batches.get(number);
        state(batch.reverses == -1 && batch.reversedBy == -1 && batches.size() < 100);
        Batch reversal = new Batch(batch.valid, known);
        for (long[] row : batch.rows) {
            reversal.rows.add(new long[] {row[0], -row[1]});
        }
        state(fault(reversal) == 0);
        reversal.reverses = number;
        batch.reversedBy = batches.size();
        batches.add(reversal);
        enter(batch.reversedBy);
        return batch.reversedBy;
    }

    boolean close(int day) {
        if (!day(day) || day <= closed) {
            return false;
        }
        closed = day;
        return true;
    }

    private long sum(int account, int first, int last, int known) {
        return ledger.stream().filter(row -> row[1] == account && in(row[3], first, last) && row[4] <= known)
                .mapToLong(row -> row[2]).sum();
    }

    long balance(int account, int day, int known) {
        argument(hasAccount(account) && day(day) && day(known));
        return sum(account, 0, day, known);
    }

    long statement(int account, int month, int known) {
        argument(hasAccount(account) && in(month, 0, 3333) && day(known));
        return sum(account, 30 * month, 30 * month + 29, known);
    }

    boolean part(int kind, int receiver, int part) {
        if (!in(kind, 0, 5) || !in(receiver, 0, 3) || !in(part, 0, 1000)) {
            return false;
        }
        parts.put(List.of(kind, receiver), part);
        return true;
    }

    boolean cost(int kind, int thousandths) {
        if (!in(kind, 0, 5) || !in(thousandths, 0, 1000)) {
            return false;
        }
        costs.put(kind, thousandths);
        return true;
    }

    long passed(int kind, int what, int known) {
        argument(in(kind, 0, 5) && in(what, 0, 6) && day(known));
        long sum = Math.max(0, ledger.stream().filter(row -> kinds.get((int) row[1]) == kind && row[4] <= known)
                .mapToLong(row -> row[2]).sum());
        long cost = BigInteger.valueOf(sum).multiply(BigInteger.valueOf(costs.getOrDefault(kind, 0)))
                .divide(BigInteger.valueOf(1000)).longValueExact();
        long[] shares = shares(kind, sum - cost);
        long all = shares[0] + shares[1] + shares[2] + shares[3];
        return what < 4 ? shares[what] : what == 4 ? cost : what == 5 ? sum - all : sum;
    }

    private long[] shares(int kind, long rest) {
        long[] shares = new long[4];
        List<BigInteger> own = new ArrayList<>();
        for (int receiver = 0; receiver < 4; receiver++) {
            own.add(BigInteger.valueOf(parts.getOrDefault(List.of(kind, receiver), 0)));
        }
        BigInteger all = own.stream().reduce(BigInteger.ZERO, BigInteger::add);
        if (all.signum() == 0) {
            return shares;
        }
        BigInteger[] remainders = new BigInteger[4];
        long left = rest;
        for (int receiver = 0; receiver < 4; receiver++) {
            BigInteger[] both = BigInteger.valueOf(rest).multiply(own.get(receiver)).divideAndRemainder(all);
            shares[receiver] = both[0].longValueExact();
            remainders[receiver] = both[1];
            left -= shares[receiver];
        }
        List<Integer> order = new ArrayList<>(List.of(0, 1, 2, 3));
        order.sort((a, b) -> remainders[b].compareTo(remainders[a]));
        for (int i = 0; i < left; i++) {
            shares[order.get(i)]++;
        }
        return shares;
    }

    long reconcile(int account, int other, int day, int known) {
        argument(account != other);
        return balance(account, day, known) + balance(other, day, known);
    }

    long read(int i, int what) {
        index(in(i, 0, ledger.size() - 1) && in(what, 0, 4));
        return ledger.get(i)[what];
    }

    int look(int number, int what) {
        index(in(number, 0, batches.size() - 1) && in(what, 0, 6));
        Batch batch = batches.get(number);
        return new int[] {batch.state, batch.rows.size(), batch.reverses, batch.reversedBy, batch.fails ? 1 : 0,
            batch.valid, batch.known}[what];
    }

    int count(int what) {
        int[] all = {kinds.size(), batches.size(), ledger.size(), closed, latest, wrong, named, 0, failures};
        return in(what, 0, 8) ? all[what] : -1;
    }
}
