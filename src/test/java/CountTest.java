/** Promise 17: count. */
public final class CountTest {
    public static void main(String[] args) {
        everyWhat();
        noSuchWhat();
        Check.finish();
    }

    private static void counts(DutyLedger ledger, int... due) {
        for (int what = 0; what <= 8; what++) {
            Check.due("count(" + what + ")", ledger.count(what), due[what]);
        }
    }

    private static void everyWhat() {
        DutyLedger ledger = new DutyLedger();
        counts(ledger, 0, 0, 0, -1, -1, 0, -1, 0, 0);
        ledger.account(0);
        ledger.account(1);
        ledger.account(1);
        counts(ledger, 3, 0, 0, -1, -1, 0, -1, 0, 0);
        int batch = Made.open(ledger, 5, 50, 0, 1, 5);
        counts(ledger, 3, 1, 0, -1, -1, 0, -1, 0, 0);
        ledger.fails(batch, true);
        Check.thrown("post", Check.FAILED, () -> ledger.post(batch));
        counts(ledger, 3, 1, 0, -1, -1, 0, -1, 0, 1);
        ledger.post(batch);
        counts(ledger, 3, 1, 2, -1, 50, 0, -1, 0, 1);
        ledger.close(40);
        counts(ledger, 3, 1, 2, 40, 50, 0, -1, 0, 1);
        int uneven = ledger.batch(0, 60);
        ledger.row(uneven, 2, 1);
        Check.thrown("post", Check.STATE, () -> ledger.post(uneven));
        counts(ledger, 3, 2, 2, 40, 50, 2, 2, 0, 1);
        ledger.reverse(batch, 70);
        counts(ledger, 3, 3, 4, 40, 70, 2, 2, 0, 1);
        int ahead = Made.open(ledger, 5, 69, 0, 1, 5);
        Check.thrown("post", Check.STATE, () -> ledger.post(ahead));
        counts(ledger, 3, 4, 4, 40, 70, 4, -1, 0, 1);
    }

    /** "NONE for another what", in a ledger where no count is NONE. */
    private static void noSuchWhat() {
        DutyLedger ledger = Rich.make();
        for (int what : new int[] {-1, 9, Integer.MIN_VALUE, Integer.MAX_VALUE}) {
            Check.due("count(" + what + ")", ledger.count(what), -1);
        }
        counts(ledger, 12, Rich.BATCHES, Rich.ROWS, Rich.CLOSED, Rich.LATEST, 2, 4, 0, 1);
        Check.due("count(-1) of a new object", new DutyLedger().count(-1), -1);
        Check.due("count(9) of a new object", new DutyLedger().count(9), -1);
    }
}
