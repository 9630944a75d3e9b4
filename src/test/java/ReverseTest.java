import java.util.List;

/** Promise 7: reverse. */
public final class ReverseTest {
    public static void main(String[] args) {
        reversed();
        noSuchBatchOrDay();
        atMostOnce();
        hundredBatches();
        cantBePosted();
        argumentsFirst();
        Check.finish();
    }

    private static void reversed() {
        DutyLedger ledger = Made.withAccounts(0, 1, 2);
        int batch = ledger.batch(40, 20);
        ledger.row(batch, 2, 9);
        ledger.row(batch, 0, -1000000000);
        ledger.row(batch, 1, 999999991);
        ledger.post(batch);
        Check.due("reverse(0, 25)", ledger.reverse(batch, 25), 1);
        int[] looks = {1, 3, 0, -1, 0, 40, 25};
        for (int what = 0; what < looks.length; what++) {
            Check.due("look(1, " + what + ")", ledger.look(1, what), looks[what]);
        }
        Check.due("look(0, 3)", ledger.look(batch, 3), 1);
        Check.due("look(0, 2)", ledger.look(batch, 2), -1);
        Check.due("look(0, 0)", ledger.look(batch, 0), 1);
        long[][] rows = {{1, 2, -9, 40, 25}, {1, 0, 1000000000, 40, 25}, {1, 1, -999999991, 40, 25}};
        for (int i = 0; i < rows.length; i++) {
            for (int what = 0; what <= 4; what++) {
                Check.due("read(" + (3 + i) + ", " + what + ")", ledger.read(3 + i, what), rows[i][what]);
            }
        }
        Check.due("read(0, 2): the batch's own rows stay", ledger.read(0, 2), 9);
        int[] counts = {3, 2, 6, -1, 25, 0, -1, 0, 0};
        for (int what = 0; what < counts.length; what++) {
            Check.due("count(" + what + ")", ledger.count(what), counts[what]);
        }
        Check.due("balance as known before", ledger.balance(2, 40, 24), 9);
        Check.due("balance as known then", ledger.balance(2, 40, 25), 0);
    }

    private static void refused(DutyLedger ledger, int batch, int known, Class<? extends RuntimeException> due) {
        List<Long> before = Made.seen(ledger);
        Check.thrown("reverse(" + batch + ", " + known + ")", due, () -> ledger.reverse(batch, known));
        Check.yes("nothing is changed", before.equals(Made.seen(ledger)));
    }

    private static void noSuchBatchOrDay() {
        DutyLedger ledger = Made.withAccounts(0, 1);
        Made.posted(ledger, 0, 0, 0, 1, 5);
        int open = Made.open(ledger, 0, 0, 0, 1, 5);
        int empty = ledger.batch(0, 0);
        Check.thrown("post of no rows", Check.STATE, () -> ledger.post(empty));
        for (int batch : new int[] {open, empty, -1, 3, 100, Integer.MIN_VALUE, Integer.MAX_VALUE}) {
            refused(ledger, batch, 5, Check.ARGUMENT);
        }
        for (int day : new int[] {-1, 100001, Integer.MIN_VALUE, Integer.MAX_VALUE}) {
            refused(ledger, 0, day, Check.ARGUMENT);
        }
        Check.due("reverse(0, 100000)", ledger.reverse(0, 100000), 3);
    }

    private static void atMostOnce() {
        DutyLedger ledger = Made.withAccounts(0, 1);
        Made.posted(ledger, 0, 0, 0, 1, 5);
        Made.posted(ledger, 0, 0, 0, 1, 6);
        Check.due("reverse(1, 0)", ledger.reverse(1, 0), 2);
        refused(ledger, 1, 0, Check.STATE);
        refused(ledger, 2, 0, Check.STATE);
        Check.due("reverse(0, 0)", ledger.reverse(0, 0), 3);
        refused(ledger, 3, 7, Check.STATE);
    }

    private static void hundredBatches() {
        DutyLedger ledger = Made.withAccounts(0, 1);
        Made.posted(ledger, 0, 0, 0, 1, 5);
        Made.posted(ledger, 0, 0, 0, 1, 5);
        Made.fillBatches(ledger, 99);
        Check.due("the 100th batch", ledger.reverse(0, 0), 99);
        refused(ledger, 1, 0, Check.STATE);
    }

    /** No batch is made then, so none became VOID: what was wrong with an earlier one stays told. */
    private static void cantBePosted() {
        DutyLedger ledger = Made.withAccounts(0, 1);
        int uneven = ledger.batch(0, 0);
        ledger.row(uneven, 1, 3);
        Check.thrown("post", Check.STATE, () -> ledger.post(uneven));
        int batch = Made.posted(ledger, 0, 20, 0, 1, 5);
        refused(ledger, batch, 19, Check.STATE);
        ledger.close(30);
        refused(ledger, batch, 30, Check.STATE);
        refused(ledger, batch, 25, Check.STATE);
        Check.due("count(5)", ledger.count(5), 2);
        Check.due("count(6)", ledger.count(6), 1);
        Check.due("reverse behind the closed day", ledger.reverse(batch, 31), 2);

        DutyLedger full = Made.withAccounts(0, 1);
        Made.fillRows(full, 379);
        Made.posted(full, 0, 0, 0, 1, 5);
        refused(full, 0, 0, Check.STATE);
        DutyLedger fits = Made.withAccounts(0, 1);
        Made.fillRows(fits, 380);
        Check.due("reverse into the last rows", fits.reverse(0, 0), 19);
        Check.due("count(2)", fits.count(2), 400);
        Check.due("read(399, 2)", fits.read(399, 2), 1);
    }

    private static void argumentsFirst() {
        DutyLedger ledger = Made.withAccounts(0, 1);
        Made.posted(ledger, 0, 0, 0, 1, 5);
        ledger.reverse(0, 0);
        Made.fillBatches(ledger, 100);
        refused(ledger, 0, 100001, Check.ARGUMENT);
        refused(ledger, 1, -1, Check.ARGUMENT);
        refused(ledger, 2, 0, Check.ARGUMENT);
    }
}
