/**
 * A ledger in double rows with two days each, as ../shared/DOC.md describes it.
 *
 * In the document's words "behind" a day is later than it, "ahead of" a day is earlier.
 */
public final class DutyLedger {
    public static final int NONE = -1;

    private static final int LAST_DAY = 100000;
    private static final int LAST_MONTH = 3333;
    private static final int DAYS_OF_MONTH = 30;

    private static final int KINDS = 6;
    private static final int MOST_ACCOUNTS = 12;
    private static final int MOST_BATCHES = 100;
    private static final int MOST_ROWS_OF_BATCH = 20;
    private static final int MOST_ROWS_OF_LEDGER = 400;
    private static final long MOST_CENTS = 1000000000L;

    private static final int RECEIVERS = 4;
    private static final int MOST_PART = 1000;
    private static final int THOUSANDTHS = 1000;

    private static final int OPEN = 0;
    private static final int POSTED = 1;
    private static final int VOID = 2;

    private static final int NOTHING_WRONG = 0;
    private static final int NO_ROWS = 1;
    private static final int SUM_NOT_ZERO = 2;
    private static final int DAY_CLOSED = 3;
    private static final int AHEAD_OF_POSTED = 4;
    private static final int NO_ROOM = 5;

    private static final int PASSED_COST = 4;
    private static final int PASSED_KEPT = 5;
    private static final int PASSED_SUM = 6;

    private final int[] kinds = new int[MOST_ACCOUNTS];
    private int accountCount = 0;
    private final Batch[] batches = new Batch[MOST_BATCHES];
    private int batchCount = 0;
    private final Book book = new Book();
    private final Shares shares = new Shares();
    private int closedDay = NONE;
    private int latestKnown = NONE;
    private int wrong = NOTHING_WRONG;
    private int named = NONE;
    private int failures = 0;

    public DutyLedger() {
    }

    public int account(int kind) throws IllegalArgumentException, IllegalStateException {
        if (!isKind(kind)) {
            throw new IllegalArgumentException("no such kind");
        }
        if (accountCount >= MOST_ACCOUNTS) {
            throw new IllegalStateException("no more accounts");
        }
        kinds[accountCount] = kind;
        accountCount++;
        return accountCount - 1;
    }

    public int batch(int valid, int known) throws IllegalArgumentException, IllegalStateException {
        if (!isDay(valid) || !isDay(known)) {
            throw new IllegalArgumentException("no such day");
        }
        if (batchCount >= MOST_BATCHES) {
            throw new IllegalStateException("no more batches");
        }
        return keep(new Batch(valid, known, NONE));
    }

    public boolean row(int batch, int account, long cents) {
        Batch open = batchThatIs(OPEN, batch);
        if (open == null || !isAccount(account) || !canBeCents(cents)) {
            return false;
        }
        return open.take(account, cents);
    }

    public boolean fails(int batch, boolean is) {
        Batch open = batchThatIs(OPEN, batch);
        if (open == null) {
            return false;
        }
        open.toldToFail = is;
        return true;
    }

    public int post(int batch)
            throws IllegalArgumentException, IllegalStateException, UnsupportedOperationException {
        Batch open = batchThatIs(OPEN, batch);
        if (open == null) {
            throw new IllegalArgumentException("no such open batch");
        }
        int found = whatIsWrongWith(open);
        if (found != NOTHING_WRONG) {
            makeVoid(open, found);
            throw new IllegalStateException("the batch is void");
        }
        if (open.toldToFail) {
            failHalfway(batch, open);
            throw new UnsupportedOperationException("the batch failed");
        }
        enter(batch, open);
        return 1;
    }

    public int reverse(int batch, int known) throws IllegalArgumentException, IllegalStateException {
        Batch posted = batchThatIs(POSTED, batch);
        if (posted == null || !isDay(known)) {
            throw new IllegalArgumentException("no such posted batch, or no such day");
        }
        if (posted.reverses != NONE || posted.reversedBy != NONE) {
            throw new IllegalStateException("reversed, or a reversal");
        }
        if (batchCount >= MOST_BATCHES) {
            throw new IllegalStateException("no more batches");
        }
        Batch reversal = reversalOf(batch, posted, known);
        // No batch is made if this one can't be posted, so none becomes VOID
        // and what was wrong with an earlier one stays told.
        if (whatIsWrongWith(reversal) != NOTHING_WRONG) {
            throw new IllegalStateException("the reversal can't be posted");
        }
        int number = keep(reversal);
        enter(number, reversal);
        posted.reversedBy = number;
        return number;
    }

    public boolean close(int day) {
        if (!isDay(day) || day <= closedDay) {
            return false;
        }
        closedDay = day;
        return true;
    }

    public long balance(int account, int day, int known) throws IllegalArgumentException {
        if (!isAccount(account) || !isDay(day) || !isDay(known)) {
            throw new IllegalArgumentException("no such account or day");
        }
        return book.sum(account, 0, day, known);
    }

    public long statement(int account, int month, int known) throws IllegalArgumentException {
        if (!isAccount(account) || !isMonth(month) || !isDay(known)) {
            throw new IllegalArgumentException("no such account, month or day");
        }
        int first = DAYS_OF_MONTH * month;
        return book.sum(account, first, first + DAYS_OF_MONTH - 1, known);
    }

    public boolean part(int kind, int receiver, int part) {
        if (!isKind(kind) || !isReceiver(receiver) || part < 0 || part > MOST_PART) {
            return false;
        }
        shares.setPart(kind, receiver, part);
        return true;
    }

    public boolean cost(int kind, int thousandths) {
        if (!isKind(kind) || thousandths < 0 || thousandths > THOUSANDTHS) {
            return false;
        }
        shares.setCost(kind, thousandths);
        return true;
    }

    public long passed(int kind, int what, int known) throws IllegalArgumentException {
        if (!isKind(kind) || what < 0 || what > PASSED_SUM || !isDay(known)) {
            throw new IllegalArgumentException("no such kind, day or what");
        }
        long collected = collectedOf(kind, known);
        long cost = shares.costOf(kind, collected);
        switch (what) {
            case PASSED_COST:
                return cost;
            case PASSED_KEPT:
                return collected - shares.allShares(kind, collected - cost);
            case PASSED_SUM:
                return collected;
            default:
                return shares.shareOf(kind, what, collected - cost);
        }
    }

    public long reconcile(int account, int other, int day, int known) throws IllegalArgumentException {
        if (!isAccount(account) || !isAccount(other) || account == other) {
            throw new IllegalArgumentException("no two such accounts");
        }
        if (!isDay(day) || !isDay(known)) {
            throw new IllegalArgumentException("no such day");
        }
        return book.sum(account, 0, day, known) + book.sum(other, 0, day, known);
    }

    public long read(int i, int what) throws IndexOutOfBoundsException {
        if (i < 0 || i >= book.size) {
            throw new IndexOutOfBoundsException("no such row");
        }
        switch (what) {
            case 0:
                return book.batchNumbers[i];
            case 1:
                return book.accounts[i];
            case 2:
                return book.cents[i];
            case 3:
                return book.validDays[i];
            case 4:
                return book.knownDays[i];
            default:
                throw new IndexOutOfBoundsException("no such what");
        }
    }

    public int look(int batch, int what) throws IndexOutOfBoundsException {
        Batch seen = batchAt(batch);
        if (seen == null) {
            throw new IndexOutOfBoundsException("no such batch");
        }
        switch (what) {
            case 0:
                return seen.state;
            case 1:
                return seen.size;
            case 2:
                return seen.reverses;
            case 3:
                return seen.reversedBy;
            case 4:
                return seen.toldToFail ? 1 : 0;
            case 5:
                return seen.valid;
            case 6:
                return seen.known;
            default:
                throw new IndexOutOfBoundsException("no such what");
        }
    }

    public int count(int what) {
        switch (what) {
            case 0:
                return accountCount;
            case 1:
                return batchCount;
            case 2:
                return book.size;
            case 3:
                return closedDay;
            case 4:
                return latestKnown;
            case 5:
                return wrong;
            case 6:
                return named;
            case 7:
                return book.held;
            case 8:
                return failures;
            default:
                return NONE;
        }
    }

    private static boolean isDay(int day) {
        return day >= 0 && day <= LAST_DAY;
    }

    private static boolean isMonth(int month) {
        return month >= 0 && month <= LAST_MONTH;
    }

    private static boolean isKind(int kind) {
        return kind >= 0 && kind < KINDS;
    }

    private static boolean isReceiver(int receiver) {
        return receiver >= 0 && receiver < RECEIVERS;
    }

    private static boolean canBeCents(long cents) {
        return cents != 0 && cents >= -MOST_CENTS && cents <= MOST_CENTS;
    }

    private boolean isAccount(int account) {
        return account >= 0 && account < accountCount;
    }

    /** Null if there is none of that number. */
    private Batch batchAt(int number) {
        return number >= 0 && number < batchCount ? batches[number] : null;
    }

    /** Null if there is none of that number, or it is in another state. */
    private Batch batchThatIs(int state, int number) {
        Batch found = batchAt(number);
        return found != null && found.state == state ? found : null;
    }

    /** The caller has looked that there is room for one more. */
    private int keep(Batch batch) {
        batches[batchCount] = batch;
        batchCount++;
        return batchCount - 1;
    }

    /** The tests stand in the order of their numbers: the least that is wrong is told. */
    private int whatIsWrongWith(Batch batch) {
        if (batch.size == 0) {
            return NO_ROWS;
        }
        if (batch.sum() != 0) {
            return SUM_NOT_ZERO;
        }
        if (batch.known <= closedDay) {
            return DAY_CLOSED;
        }
        if (batch.known < latestKnown) {
            return AHEAD_OF_POSTED;
        }
        if (!book.hasRoomFor(batch.size)) {
            return NO_ROOM;
        }
        return NOTHING_WRONG;
    }

    private void makeVoid(Batch batch, int found) {
        wrong = found;
        // Named before the rows go, since they tell the account. Only the rows go: the document
        // has no other answer for the days of a VOID batch, nor for whether it was told to fail.
        named = found == SUM_NOT_ZERO ? accountFarthestFromZero(batch) : NONE;
        batch.size = 0;
        batch.state = VOID;
    }

    private int accountFarthestFromZero(Batch batch) {
        int farthest = NONE;
        long most = 0;
        for (int account = 0; account < accountCount; account++) {
            long off = Math.abs(batch.sumOf(account));
            if (off > most) {
                most = off;
                farthest = account;
            }
        }
        return farthest;
    }

    private void failHalfway(int number, Batch batch) {
        book.bringIn(number, batch, batch.size / 2);
        book.takeHeldOut();
        batch.toldToFail = false;
        failures++;
    }

    private void enter(int number, Batch batch) {
        book.bringIn(number, batch, batch.size);
        book.settleHeld();
        batch.state = POSTED;
        latestKnown = batch.known;
    }

    private static Batch reversalOf(int number, Batch posted, int known) {
        Batch reversal = new Batch(posted.valid, known, number);
        for (int i = 0; i < posted.size; i++) {
            reversal.take(posted.accounts[i], -posted.cents[i]);
        }
        return reversal;
    }

    private long collectedOf(int kind, int known) {
        long sum = 0;
        for (int account = 0; account < accountCount; account++) {
            if (kinds[account] == kind) {
                sum += book.sum(account, 0, LAST_DAY, known);
            }
        }
        return Math.max(sum, 0L);
    }

    /** What is gathered before it is posted: its rows stay here too when it is in the book. */
    private static final class Batch {
        final int valid;
        final int known;
        final int reverses;
        final int[] accounts = new int[MOST_ROWS_OF_BATCH];
        final long[] cents = new long[MOST_ROWS_OF_BATCH];
        int size = 0;
        int state = OPEN;
        int reversedBy = NONE;
        boolean toldToFail = false;

        Batch(int valid, int known, int reverses) {
            this.valid = valid;
            this.known = known;
            this.reverses = reverses;
        }

        boolean take(int account, long amount) {
            if (size >= MOST_ROWS_OF_BATCH) {
                return false;
            }
            accounts[size] = account;
            cents[size] = amount;
            size++;
            return true;
        }

        long sum() {
            long sum = 0;
            for (int i = 0; i < size; i++) {
                sum += cents[i];
            }
            return sum;
        }

        long sumOf(int account) {
            long sum = 0;
            for (int i = 0; i < size; i++) {
                if (accounts[i] == account) {
                    sum += cents[i];
                }
            }
            return sum;
        }
    }

    /** The rows of the ledger; the last ones of them are held while their batch is posted. */
    private static final class Book {
        final int[] batchNumbers = new int[MOST_ROWS_OF_LEDGER];
        final int[] accounts = new int[MOST_ROWS_OF_LEDGER];
        final long[] cents = new long[MOST_ROWS_OF_LEDGER];
        final int[] validDays = new int[MOST_ROWS_OF_LEDGER];
        final int[] knownDays = new int[MOST_ROWS_OF_LEDGER];
        int size = 0;
        int held = 0;

        boolean hasRoomFor(int rows) {
            return rows <= MOST_ROWS_OF_LEDGER - size;
        }

        /** The first rows of a batch for all of which there is room. */
        void bringIn(int number, Batch batch, int rows) {
            for (int i = 0; i < rows; i++) {
                batchNumbers[size] = number;
                accounts[size] = batch.accounts[i];
                cents[size] = batch.cents[i];
                validDays[size] = batch.valid;
                knownDays[size] = batch.known;
                size++;
                held++;
            }
        }

        void takeHeldOut() {
            size -= held;
            held = 0;
        }

        void settleHeld() {
            held = 0;
        }

        long sum(int account, int firstValid, int lastValid, int lastKnown) {
            long sum = 0;
            for (int i = 0; i < size; i++) {
                if (accounts[i] == account && validDays[i] >= firstValid
                        && validDays[i] <= lastValid && knownDays[i] <= lastKnown) {
                    sum += cents[i];
                }
            }
            return sum;
        }
    }

    /** Who gets what of a kind. No product here leaves a long: 400 rows of 10^9 cents times 1000. */
    private static final class Shares {
        final int[] parts = new int[KINDS * RECEIVERS];
        final int[] costs = new int[KINDS];

        void setPart(int kind, int receiver, int part) {
            parts[kind * RECEIVERS + receiver] = part;
        }

        void setCost(int kind, int thousandths) {
            costs[kind] = thousandths;
        }

        long costOf(int kind, long collected) {
            return collected * costs[kind] / THOUSANDTHS;
        }

        long allShares(int kind, long rest) {
            long sum = 0;
            for (int receiver = 0; receiver < RECEIVERS; receiver++) {
                sum += shareOf(kind, receiver, rest);
            }
            return sum;
        }

        long shareOf(int kind, int receiver, long rest) {
            if (allParts(kind) == 0) {
                return 0;
            }
            long share = wholeShare(kind, receiver, rest);
            return placeByRemainder(kind, receiver, rest) < centsLeft(kind, rest) ? share + 1 : share;
        }

        private int allParts(int kind) {
            int sum = 0;
            for (int receiver = 0; receiver < RECEIVERS; receiver++) {
                sum += parts[kind * RECEIVERS + receiver];
            }
            return sum;
        }

        private long wholeShare(int kind, int receiver, long rest) {
            int all = allParts(kind);
            return all == 0 ? 0 : rest * parts[kind * RECEIVERS + receiver] / all;
        }

        private long remainder(int kind, int receiver, long rest) {
            int all = allParts(kind);
            return all == 0 ? 0 : rest * parts[kind * RECEIVERS + receiver] % all;
        }

        private long centsLeft(int kind, long rest) {
            long left = rest;
            for (int receiver = 0; receiver < RECEIVERS; receiver++) {
                left -= wholeShare(kind, receiver, rest);
            }
            return left;
        }

        /** How many receivers come before this one when the cents that are left are given out. */
        private int placeByRemainder(int kind, int receiver, long rest) {
            long own = remainder(kind, receiver, rest);
            int place = 0;
            for (int other = 0; other < RECEIVERS; other++) {
                long theirs = remainder(kind, other, rest);
                if (theirs > own || theirs == own && other < receiver) {
                    place++;
                }
            }
            return place;
        }
    }
}
