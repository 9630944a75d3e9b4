/** Promise 15: read. */
public final class ReadTest {
    public static void main(String[] args) {
        rows();
        noRowsYet();
        noSuchRow();
        allRows();
        noSuchWhat();
        Check.finish();
    }

    private static void rows() {
        DutyLedger ledger = Made.withAccounts(0, 1, 2);
        ledger.batch(0, 0);
        Made.posted(ledger, 100000, 7, 2, 0, 1000000000);
        Made.posted(ledger, 3, 100000, 1, 2, 8);
        long[][] due = {
            {1, 2, 1000000000, 100000, 7}, {1, 0, -1000000000, 100000, 7}, {2, 1, 8, 3, 100000}, {2, 2, -8, 3, 100000}};
        for (int i = 0; i < due.length; i++) {
            for (int what = 0; what <= 4; what++) {
                Check.due("read(" + i + ", " + what + ")", ledger.read(i, what), due[i][what]);
            }
        }
    }

    /** Rows of batches that are open, VOID or failed are none of the ledger. */
    private static void noRowsYet() {
        DutyLedger ledger = Made.withAccounts(0, 1);
        Check.thrown("read(0, 0)", Check.INDEX, () -> ledger.read(0, 0));
        int batch = Made.open(ledger, 0, 0, 0, 1, 5);
        Check.thrown("read(0, 0)", Check.INDEX, () -> ledger.read(0, 0));
        ledger.fails(batch, true);
        Check.thrown("post", Check.FAILED, () -> ledger.post(batch));
        Check.thrown("read(0, 0)", Check.INDEX, () -> ledger.read(0, 0));
        Made.emptyVoid(ledger);
        Check.thrown("read(0, 0)", Check.INDEX, () -> ledger.read(0, 0));
        ledger.post(batch);
        Check.due("read(0, 0)", ledger.read(0, 0), 0);
    }

    /** "IndexOutOfBoundsException if there is none such": the last row and the first that isn't. */
    private static void noSuchRow() {
        DutyLedger ledger = Made.withAccounts(0, 1);
        Made.posted(ledger, 0, 0, 0, 1, 5);
        for (int i : new int[] {-1, 2, 400, Integer.MIN_VALUE, Integer.MAX_VALUE}) {
            for (int what = 0; what <= 4; what++) {
                int of = what;
                Check.thrown("read(" + i + ", " + what + ")", Check.INDEX, () -> ledger.read(i, of));
            }
        }
        Check.due("read(1, 2)", ledger.read(1, 2), -5);
    }

    private static void allRows() {
        DutyLedger ledger = Made.withAccounts(0, 1);
        Made.fillRows(ledger, 400);
        Check.due("read(399, 0)", ledger.read(399, 0), 19);
        Check.thrown("read(400, 0)", Check.INDEX, () -> ledger.read(400, 0));
    }

    /** What is 0 to 4. */
    private static void noSuchWhat() {
        DutyLedger ledger = Made.withAccounts(0, 1);
        Made.posted(ledger, 6, 7, 0, 1, 5);
        for (int what : new int[] {-1, 5, Integer.MIN_VALUE, Integer.MAX_VALUE}) {
            Check.thrown("read(0, " + what + ")", Check.INDEX, () -> ledger.read(0, what));
            Check.thrown("read(2, " + what + ")", Check.INDEX, () -> ledger.read(2, what));
        }
        Check.due("read(0, 4)", ledger.read(0, 4), 7);
    }
}
