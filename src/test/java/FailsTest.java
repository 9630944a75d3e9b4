/** Promise 5: fails. */
public final class FailsTest {
    public static void main(String[] args) {
        told();
        toldNotTo();
        toldWithoutRows();
        noBatchYet();
        noSuchBatch();
        openOnesAlone();
        Check.finish();
    }

    /** "A batch is told to FAIL": that one alone, and telling it twice is telling it once. */
    private static void told() {
        DutyLedger ledger = Made.withAccounts(0, 1);
        int batch = Made.open(ledger, 0, 0, 0, 1, 5);
        int other = Made.open(ledger, 0, 0, 0, 1, 5);
        Check.yes("fails(0, true)", ledger.fails(batch, true));
        Check.yes("fails(0, true) again", ledger.fails(batch, true));
        Check.due("look(0, 4)", ledger.look(batch, 4), 1);
        Check.due("look(1, 4)", ledger.look(other, 4), 0);
        Check.due("count(8)", ledger.count(8), 0);
        Check.due("post(1)", ledger.post(other), 1);
        Check.thrown("post(0)", Check.FAILED, () -> ledger.post(batch));
        Check.due("post(0)", ledger.post(batch), 1);
    }

    /** "or not to". */
    private static void toldNotTo() {
        DutyLedger ledger = Made.withAccounts(0, 1);
        int batch = Made.open(ledger, 0, 0, 0, 1, 5);
        Check.yes("fails(0, false)", ledger.fails(batch, false));
        Check.due("look(0, 4)", ledger.look(batch, 4), 0);
        ledger.fails(batch, true);
        Check.yes("fails(0, false)", ledger.fails(batch, false));
        Check.due("look(0, 4)", ledger.look(batch, 4), 0);
        Check.due("post(0)", ledger.post(batch), 1);
        Check.due("count(8)", ledger.count(8), 0);
    }

    /** A batch may be told before it has rows: it fails when it has them. */
    private static void toldWithoutRows() {
        DutyLedger ledger = Made.withAccounts(0, 1);
        int batch = ledger.batch(0, 0);
        Check.yes("fails(0, true)", ledger.fails(batch, true));
        ledger.row(batch, 0, 5);
        ledger.row(batch, 1, -5);
        Check.thrown("post(0)", Check.FAILED, () -> ledger.post(batch));
    }

    private static void noBatchYet() {
        DutyLedger ledger = new DutyLedger();
        Check.no("fails(0, true)", ledger.fails(0, true));
        ledger.batch(0, 0);
        Check.due("look(0, 4): a batch that is begun behind that", ledger.look(0, 4), 0);
    }

    /** "false if there is no such batch": the last one there is and the first there isn't. */
    private static void noSuchBatch() {
        DutyLedger ledger = new DutyLedger();
        Made.fillBatches(ledger, 99);
        for (int batch : new int[] {-1, 99, 100, Integer.MIN_VALUE, Integer.MAX_VALUE}) {
            Check.no("fails(" + batch + ", true)", ledger.fails(batch, true));
            Check.no("fails(" + batch + ", false)", ledger.fails(batch, false));
        }
        Check.yes("fails(98, true)", ledger.fails(98, true));
        ledger.batch(0, 0);
        Check.yes("fails(99, true)", ledger.fails(99, true));
        Check.no("fails(100, true)", ledger.fails(100, true));
    }

    /** "that is OPEN": not a posted, a VOID one, or a reversal. */
    private static void openOnesAlone() {
        DutyLedger ledger = Made.withAccounts(0, 1);
        int posted = Made.posted(ledger, 0, 0, 0, 1, 5);
        int reversal = ledger.reverse(posted, 0);
        int empty = Made.emptyVoid(ledger);
        for (int batch : new int[] {posted, reversal, empty}) {
            Check.no("fails(" + batch + ", true)", ledger.fails(batch, true));
            Check.no("fails(" + batch + ", false)", ledger.fails(batch, false));
            Check.due("look(" + batch + ", 4)", ledger.look(batch, 4), 0);
        }
    }
}
