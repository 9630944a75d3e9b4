/** Promise 15: read. */
public final class ReadTest {
    public static void main(String[] args) {
        rows();
        noneSuch();
        Check.finish();
    }

    private static void rows() {
        DutyLedger ledger = Made.withAccounts(0, 1, 2);
        ledger.batch(0, 0);
        Made.posted(ledger, 100000, 7, 2, 0, 1000000000);
        Made.posted(ledger, 3, 100000, 1, 2, 8);
        long[][] due = {
            {1, 2, 1000000000, 100000, 7}, {1, 0, -1000000000, 100000, 7}, {2, 1, 8, 3, 100000}, {2, 2, -8, 3, 100000}};
        for (int i = 0; i < due.length; i++) {
            for (int what = 0; what <= 4; what++) {
                Check.due("read(" + i + ", " + what + ")", ledger.read(i, what), due[i][what]);
            }
        }
    }

    private static void noneSuch() {
        DutyLedger ledger = Made.withAccounts(0, 1);
        Made.posted(ledger, 0, 0, 0, 1, 5);
        Made.open(ledger, 0, 0, 0, 1, 5);
        for (int number : new int[] {-1, 400, Integer.MIN_VALUE, Integer.MAX_VALUE}) {
            Check.thrown("read(" + number + ", 0)", Check.INDEX, () -> ledger.read(number, 0));
            Check.thrown("read(0, " + number + ")", Check.INDEX, () -> ledger.read(0, number));
        }
        Check.thrown("read(2, 0)", Check.INDEX, () -> ledger.read(2, 0));
        Check.thrown("read(0, 5)", Check.INDEX, () -> ledger.read(0, 5));
        DutyLedger full = Made.withAccounts(0, 1);
        Made.fillRows(full, 400);
        Check.due("read(399, 0)", full.read(399, 0), 19);
        Check.thrown("read(400, 0)", Check.INDEX, () -> full.read(400, 0));
    }
}
