import java.util.function.ToLongFunction;

/** "Of several exceptions the one told first is thrown. What throws changes nothing, but posting a batch." */
public final class ThrowsTest {
    public static void main(String[] args) {
        firstOfAccount();
        firstOfBatch();
        firstOfPost();
        firstOfReverse();
        accountChangesNothing();
        batchChangesNothing();
        postOfNoneChangesNothing();
        reverseChangesNothing();
        questionsChangeNothing();
        postThatThrowsChangesItsBatch();
        Check.finish();
    }

    private static void firstOfAccount() {
        DutyLedger ledger = Made.withAccounts(0, 0, 0, 0, 0, 0, 0, 0, 0, 0, 0, 0);
        Check.thrown("no such kind, and 12 accounts", Check.ARGUMENT, () -> ledger.account(-1));
        Check.thrown("no such kind, and 12 accounts", Check.ARGUMENT, () -> ledger.account(6));
        Check.thrown("12 accounts alone", Check.STATE, () -> ledger.account(5));
    }

    private static void firstOfBatch() {
        DutyLedger ledger = new DutyLedger();
        Made.fillBatches(ledger, 100);
        Check.thrown("no valid day, and 100 batches", Check.ARGUMENT, () -> ledger.batch(-1, 0));
        Check.thrown("no known day, and 100 batches", Check.ARGUMENT, () -> ledger.batch(0, 100001));
        Check.thrown("100 batches alone", Check.STATE, () -> ledger.batch(0, 0));
    }

    /** A batch that can't be posted is VOID, though it was told to fail; then it is no open one. */
    private static void firstOfPost() {
        DutyLedger ledger = Made.withAccounts(0, 1);
        int batch = ledger.batch(0, 0);
        ledger.fails(batch, true);
        Check.thrown("no rows, and told to fail", Check.STATE, () -> ledger.post(batch));
        Check.thrown("not open, without rows, and told to fail", Check.ARGUMENT, () -> ledger.post(batch));
        Check.due("failures", ledger.count(8), 0);
    }

    private static void firstOfReverse() {
        DutyLedger ledger = Made.withAccounts(0, 1);
        int reversed = Made.posted(ledger, 0, 0, 0, 1, 5);
        int reversal = ledger.reverse(reversed, 0);
        int posted = Made.posted(ledger, 0, 0, 0, 1, 5);
        int open = ledger.batch(0, 0);
        ledger.close(100000);
        Check.thrown("no day, and reversed", Check.ARGUMENT, () -> ledger.reverse(reversed, 100001));
        Check.thrown("no day, and a reversal", Check.ARGUMENT, () -> ledger.reverse(reversal, -1));
        Check.thrown("no day, and all are closed", Check.ARGUMENT, () -> ledger.reverse(posted, 100001));
        Check.thrown("not posted, and all days are closed", Check.ARGUMENT, () -> ledger.reverse(open, 100000));
        Made.fillBatches(ledger, 100);
        Check.thrown("no day, and 100 batches", Check.ARGUMENT, () -> ledger.reverse(posted, -1));
        Check.thrown("not posted, and 100 batches", Check.ARGUMENT, () -> ledger.reverse(open, 0));
        Check.thrown("no such batch, and 100 batches", Check.ARGUMENT, () -> ledger.reverse(100, 0));
        Check.thrown("100 batches, and all days are closed", Check.STATE, () -> ledger.reverse(posted, 0));
    }

    private static void changesNothing(String call, Class<? extends RuntimeException> due,
            ToLongFunction<DutyLedger> made) {
        Rich.changesNothing(call, ledger -> Check.thrown(call, due, () -> made.applyAsLong(ledger)));
    }

    private static void accountChangesNothing() {
        changesNothing("account(6)", Check.ARGUMENT, ledger -> ledger.account(6));
        changesNothing("account(-1)", Check.ARGUMENT, ledger -> ledger.account(-1));
        changesNothing("the 13th account", Check.STATE, ledger -> ledger.account(3));
    }

    private static void batchChangesNothing() {
        changesNothing("batch(-1, 50)", Check.ARGUMENT, ledger -> ledger.batch(-1, 50));
        changesNothing("batch(50, 100001)", Check.ARGUMENT, ledger -> ledger.batch(50, 100001));
        DutyLedger full = Made.withAccounts(0, 1);
        Made.fillBatches(full, 99);
        int last = Made.open(full, 3, 4, 0, 1, 5);
        Check.thrown("the 101st batch", Check.STATE, () -> full.batch(7, 8));
        int[] looks = {0, 2, -1, -1, 0, 3, 4};
        for (int what = 0; what <= 6; what++) {
            Check.due("look(99, " + what + ")", full.look(last, what), looks[what]);
        }
        Check.due("count(1)", full.count(1), 100);
        Check.thrown("look(100, 0)", Check.INDEX, () -> full.look(100, 0));
        Check.due("post(99)", full.post(last), 1);
    }

    /** Nothing is posted then, so nothing changes: what was wrong with an earlier batch stays told, too. */
    private static void postOfNoneChangesNothing() {
        for (int batch : new int[] {Rich.POSTED, Rich.VOID, Rich.REVERSED, Rich.REVERSAL, -1, Rich.BATCHES}) {
            changesNothing("post(" + batch + ")", Check.ARGUMENT, ledger -> ledger.post(batch));
        }
    }

    private static void reverseChangesNothing() {
        for (int batch : new int[] {Rich.TOLD_TO_FAIL, Rich.FAILED_ONCE, Rich.VOID, Rich.EMPTY, -1, Rich.BATCHES}) {
            changesNothing("reverse(" + batch + ", 50)", Check.ARGUMENT, ledger -> ledger.reverse(batch, 50));
        }
        changesNothing("reverse on day -1", Check.ARGUMENT, ledger -> ledger.reverse(Rich.POSTED, -1));
        changesNothing("reverse on day 100001", Check.ARGUMENT, ledger -> ledger.reverse(Rich.POSTED, 100001));
        changesNothing("reverse again", Check.STATE, ledger -> ledger.reverse(Rich.REVERSED, 50));
        changesNothing("reverse a reversal", Check.STATE, ledger -> ledger.reverse(Rich.REVERSAL, 50));
        changesNothing("reverse on a closed day", Check.STATE, ledger -> ledger.reverse(Rich.POSTED, Rich.CLOSED));
        changesNothing("reverse ahead of what was posted", Check.STATE,
                ledger -> ledger.reverse(Rich.POSTED, Rich.LATEST - 1));
    }

    private static void questionsChangeNothing() {
        changesNothing("balance", Check.ARGUMENT, ledger -> ledger.balance(12, 0, 0));
        changesNothing("statement", Check.ARGUMENT, ledger -> ledger.statement(0, 3334, 0));
        changesNothing("passed", Check.ARGUMENT, ledger -> ledger.passed(0, 7, 0));
        changesNothing("reconcile", Check.ARGUMENT, ledger -> ledger.reconcile(3, 3, 0, 0));
        changesNothing("read", Check.INDEX, ledger -> ledger.read(Rich.ROWS, 0));
        changesNothing("look", Check.INDEX, ledger -> ledger.look(Rich.BATCHES, 0));
    }

    /** "but posting a batch": it is VOID, or told to fail no more and counted; all others are as they were. */
    private static void postThatThrowsChangesItsBatch() {
        DutyLedger ledger = Rich.make();
        Check.thrown("post", Check.STATE, () -> ledger.post(Rich.EMPTY));
        Check.due("look(EMPTY, 0)", ledger.look(Rich.EMPTY, 0), 2);
        Check.due("count(5)", ledger.count(5), 1);
        Check.due("count(6)", ledger.count(6), -1);
        Check.thrown("post", Check.FAILED, () -> ledger.post(Rich.TOLD_TO_FAIL));
        Check.due("look(TOLD_TO_FAIL, 0)", ledger.look(Rich.TOLD_TO_FAIL, 0), 0);
        Check.due("look(TOLD_TO_FAIL, 4)", ledger.look(Rich.TOLD_TO_FAIL, 4), 0);
        Check.due("count(8)", ledger.count(8), 2);
        int[] states = {1, 1, 0, 0, 2, 1, 1, 2};
        for (int batch = 0; batch < Rich.BATCHES; batch++) {
            Check.due("look(" + batch + ", 0)", ledger.look(batch, 0), states[batch]);
        }
        Check.due("count(2)", ledger.count(2), Rich.ROWS);
        Check.due("count(4)", ledger.count(4), Rich.LATEST);
    }
}
