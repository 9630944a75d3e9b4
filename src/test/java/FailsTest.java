/** Promise 5: fails. */
public final class FailsTest {
    public static void main(String[] args) {
        told();
        toldNotTo();
        noSuchOpenBatch();
        Check.finish();
    }

    private static void told() {
        DutyLedger ledger = Made.withAccounts(0, 1);
        int batch = Made.open(ledger, 0, 0, 0, 1, 5);
        int other = Made.open(ledger, 0, 0, 0, 1, 5);
        Check.yes("fails(0, true)", ledger.fails(batch, true));
        Check.yes("fails(0, true) again", ledger.fails(batch, true));
        Check.due("look(0, 4)", ledger.look(batch, 4), 1);
        Check.due("look(1, 4)", ledger.look(other, 4), 0);
        Check.due("count(8)", ledger.count(8), 0);
        Check.due("post(1)", ledger.post(other), 1);
        Check.thrown("post(0)", Check.FAILED, () -> ledger.post(batch));
    }

    private static void toldNotTo() {
        DutyLedger ledger = Made.withAccounts(0, 1);
        int batch = Made.open(ledger, 0, 0, 0, 1, 5);
        Check.yes("fails(0, false)", ledger.fails(batch, false));
        ledger.fails(batch, true);
        Check.yes("fails(0, false)", ledger.fails(batch, false));
        Check.due("look(0, 4)", ledger.look(batch, 4), 0);
        Check.due("post(0)", ledger.post(batch), 1);
        Check.due("count(8)", ledger.count(8), 0);
    }

    private static void noSuchOpenBatch() {
        DutyLedger ledger = Made.withAccounts(0, 1);
        int posted = Made.posted(ledger, 0, 0, 0, 1, 5);
        int reversal = ledger.reverse(posted, 0);
        int empty = ledger.batch(0, 0);
        Check.thrown("post of no rows", Check.STATE, () -> ledger.post(empty));
        for (int batch : new int[] {posted, reversal, empty}) {
            Check.no("fails(" + batch + ", true)", ledger.fails(batch, true));
            Check.due("look(" + batch + ", 4)", ledger.look(batch, 4), 0);
        }
        for (int batch : new int[] {-1, 3, 100, Integer.MIN_VALUE, Integer.MAX_VALUE}) {
            Check.no("fails(" + batch + ", true)", ledger.fails(batch, true));
            Check.no("fails(" + batch + ", false)", ledger.fails(batch, false));
        }
    }
}
