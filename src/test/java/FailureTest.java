/** To FAIL: "these rows go out again, what was HELD is free, and the batch is OPEN as before". */
public final class FailureTest {
    public static void main(String[] args) {
        halves();
        openAsBefore();
        toldNoMore();
        toldAgain();
        nextBatchTakesTheRoom();
        voidBeforeFailed();
        inTheLastRoom();
        heldOutside();
        reversedBehindAFailure();
        Check.finish();
    }

    private static int told(DutyLedger ledger, int known, int rows) {
        int batch = Made.openRows(ledger, known, rows);
        Check.yes("fails", ledger.fails(batch, true));
        return batch;
    }

    private static void failed(DutyLedger ledger, int batch) {
        Check.thrown("post(" + batch + ")", Check.FAILED, () -> ledger.post(batch));
    }

    /** "behind the first half of its rows (rounded down)": the fewest, an odd number, and all 20. */
    private static void halves() {
        for (int rows : new int[] {2, 3, 4, 19, 20}) {
            DutyLedger ledger = Made.withAccounts(0, 1);
            Made.posted(ledger, 9, 0, 0, 1, 5);
            int batch = told(ledger, 0, rows);
            failed(ledger, batch);
            Check.due("rows of the ledger", ledger.count(2), 2);
            Check.due("HELD", ledger.count(7), 0);
            Check.thrown("read(2, 0)", Check.INDEX, () -> ledger.read(2, 0));
            Check.due("balance", ledger.balance(0, 100000, 100000), 5);
            Check.due("post", ledger.post(batch), 1);
            Check.due("rows of the ledger", ledger.count(2), 2 + rows);
            for (int i = 0; i < rows; i++) {
                Check.due("cents of row " + i, ledger.read(2 + i, 2), Made.centsOf(i, rows));
            }
        }
    }

    private static void openAsBefore() {
        DutyLedger ledger = Made.withAccounts(0, 1);
        Made.posted(ledger, 0, 3, 0, 1, 5);
        int batch = Made.open(ledger, 2, 8, 0, 1, 7);
        ledger.row(batch, 1, 4);
        ledger.row(batch, 0, -4);
        ledger.fails(batch, true);
        failed(ledger, batch);
        int[] counts = {2, 2, 2, -1, 3, 0, -1, 0, 1};
        for (int what = 0; what < counts.length; what++) {
            Check.due("count(" + what + ")", ledger.count(what), counts[what]);
        }
        int[] looks = {0, 4, -1, -1, 0, 2, 8};
        for (int what = 0; what < looks.length; what++) {
            Check.due("look(1, " + what + ")", ledger.look(batch, what), looks[what]);
        }
        Check.yes("row", ledger.row(batch, 0, 1));
        Check.yes("row", ledger.row(batch, 1, -1));
        Check.due("post", ledger.post(batch), 1);
        long[] cents = {5, -5, 7, -7, 4, -4, 1, -1};
        for (int i = 0; i < cents.length; i++) {
            Check.due("read(" + i + ", 2)", ledger.read(i, 2), cents[i]);
        }
        Check.due("count(4)", ledger.count(4), 8);
    }

    /** "told to fail no more". */
    private static void toldNoMore() {
        DutyLedger ledger = Made.withAccounts(0, 1);
        int batch = told(ledger, 0, 2);
        Check.due("look(0, 4)", ledger.look(batch, 4), 1);
        failed(ledger, batch);
        Check.due("look(0, 4)", ledger.look(batch, 4), 0);
        Check.due("post", ledger.post(batch), 1);
        Check.due("look(0, 4)", ledger.look(batch, 4), 0);
        Check.due("failures so far", ledger.count(8), 1);
    }

    private static void toldAgain() {
        DutyLedger ledger = Made.withAccounts(0, 1);
        int batch = told(ledger, 0, 2);
        int other = told(ledger, 0, 2);
        for (int i = 1; i <= 5; i++) {
            failed(ledger, batch);
            Check.due("failures so far", ledger.count(8), i);
            Check.yes("fails", ledger.fails(batch, true));
        }
        failed(ledger, other);
        Check.due("failures so far", ledger.count(8), 6);
        Check.yes("fails", ledger.fails(batch, false));
        Check.due("post", ledger.post(batch), 1);
        Check.due("failures so far", ledger.count(8), 6);
    }

    private static void nextBatchTakesTheRoom() {
        DutyLedger ledger = Made.withAccounts(0, 1);
        int batch = told(ledger, 0, 20);
        failed(ledger, batch);
        int other = Made.posted(ledger, 6, 0, 1, 0, 9);
        long[][] due = {{other, 1, 9, 6, 0}, {other, 0, -9, 6, 0}};
        for (int i = 0; i < due.length; i++) {
            for (int what = 0; what <= 4; what++) {
                Check.due("read(" + i + ", " + what + ")", ledger.read(i, what), due[i][what]);
            }
        }
        Check.due("count(2)", ledger.count(2), 2);
    }

    /** IllegalStateException is told first: a batch that can't be posted does not come to fail. */
    private static void voidBeforeFailed() {
        for (int wrong = 1; wrong <= 5; wrong++) {
            DutyLedger ledger = Made.withAccounts(0, 1);
            Made.fillRows(ledger, wrong == 5 ? 397 : 20);
            Made.posted(ledger, 0, wrong == 4 ? 9 : 0, 0, 1, 5);
            if (wrong == 3) {
                ledger.close(8);
            }
            int batch = wrong == 1 ? ledger.batch(0, 8) : Made.open(ledger, 0, 8, 0, 1, 5);
            if (wrong == 2) {
                ledger.row(batch, 0, 1);
            }
            ledger.fails(batch, true);
            Check.thrown("post", Check.STATE, () -> ledger.post(batch));
            Check.due("what was wrong", ledger.count(5), wrong);
            Check.due("failures so far", ledger.count(8), 0);
            Check.due("look(.., 0)", ledger.look(batch, 0), 2);
        }
    }

    /** A batch for all of whose rows there is room just so fails, and is posted behind that. */
    private static void inTheLastRoom() {
        DutyLedger ledger = Made.withAccounts(0, 1);
        Made.fillRows(ledger, 380);
        int batch = told(ledger, 0, 20);
        failed(ledger, batch);
        Check.due("count(2)", ledger.count(2), 380);
        Check.due("post", ledger.post(batch), 1);
        Check.due("count(2)", ledger.count(2), 400);
        Check.due("read(399, 0)", ledger.read(399, 0), batch);
    }

    /** "it is 0 outside": behind a batch that was posted, failed, is VOID, and behind reversals. */
    private static void heldOutside() {
        DutyLedger ledger = Made.withAccounts(0, 1);
        Check.due("HELD at first", ledger.count(7), 0);
        int batch = told(ledger, 5, 3);
        Check.due("HELD while rows are told", ledger.count(7), 0);
        failed(ledger, batch);
        Check.due("HELD behind a failure", ledger.count(7), 0);
        Check.due("post", ledger.post(batch), 1);
        Check.due("HELD behind posting", ledger.count(7), 0);
        Made.emptyVoid(ledger);
        Check.due("HELD behind a VOID one", ledger.count(7), 0);
        Check.thrown("reverse", Check.STATE, () -> ledger.reverse(batch, 4));
        Check.due("HELD behind a refused reversal", ledger.count(7), 0);
        ledger.reverse(batch, 5);
        Check.due("HELD behind a reversal", ledger.count(7), 0);
    }

    /** A reversal is a batch of its own: it does not fail because the batch that it reverses did. */
    private static void reversedBehindAFailure() {
        DutyLedger ledger = Made.withAccounts(0, 1);
        int batch = told(ledger, 0, 2);
        failed(ledger, batch);
        Check.due("post", ledger.post(batch), 1);
        Check.due("reverse", ledger.reverse(batch, 0), 1);
        Check.due("look(1, 4)", ledger.look(1, 4), 0);
        Check.due("failures so far", ledger.count(8), 1);
        Check.due("count(2)", ledger.count(2), 4);
    }
}
