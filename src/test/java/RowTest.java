/** Promise 4: row. */
public final class RowTest {
    public static void main(String[] args) {
        taken();
        leastAndMostCents();
        centsThatCantBe();
        noBatchOrAccountYet();
        noSuchBatch();
        noSuchAccount();
        twentyAtMost();
        aRefusedRowTakesNoRoom();
        openOnesAlone();
        openAgainBehindAFailure();
        Check.finish();
    }

    /** "A ROW: true"; it is in the ledger when its batch is posted, not before. */
    private static void taken() {
        DutyLedger ledger = Made.withAccounts(0, 1);
        ledger.batch(0, 0);
        ledger.batch(0, 0);
        Check.yes("row(1, 0, 9)", ledger.row(1, 0, 9));
        Check.yes("row(1, 0, 9) once more", ledger.row(1, 0, 9));
        Check.yes("row(0, 1, 4)", ledger.row(0, 1, 4));
        Check.due("look(0, 1)", ledger.look(0, 1), 1);
        Check.due("look(1, 1)", ledger.look(1, 1), 2);
        Check.due("count(2): none is in the ledger", ledger.count(2), 0);
        Check.due("balance", ledger.balance(0, 100000, 100000), 0);
    }

    /** "cents -1000000000 .. 1000000000, not 0": the last ones on both sides, and those next to 0. */
    private static void leastAndMostCents() {
        DutyLedger ledger = Made.withAccounts(0);
        ledger.batch(0, 0);
        long[] cents = {1, -1, 1000000000, -1000000000};
        for (long can : cents) {
            Check.yes("row(0, 0, " + can + ")", ledger.row(0, 0, can));
        }
        Check.due("post", ledger.post(0), 1);
        for (int i = 0; i < cents.length; i++) {
            Check.due("read(" + i + ", 2)", ledger.read(i, 2), cents[i]);
        }
    }

    /** The first ones that can't be, and those that would be allowed if they were cut to an int. */
    private static void centsThatCantBe() {
        DutyLedger ledger = Made.withAccounts(0);
        ledger.batch(0, 0);
        long[] none = {0, 1000000001L, -1000000001L, Long.MAX_VALUE, Long.MIN_VALUE, 1L << 32, (1L << 32) + 5,
            (1L << 32) - 5, -(1L << 32) + 5, -(1L << 32) - 5, Long.MIN_VALUE + 5, Long.MAX_VALUE - 5};
        for (long cents : none) {
            Check.no("row(0, 0, " + cents + ")", ledger.row(0, 0, cents));
        }
        Check.due("look(0, 1)", ledger.look(0, 1), 0);
    }

    private static void noBatchOrAccountYet() {
        DutyLedger ledger = new DutyLedger();
        Check.no("row without batches and accounts", ledger.row(0, 0, 1));
        ledger.batch(0, 0);
        Check.no("row without accounts", ledger.row(0, 0, 1));
        ledger.account(0);
        Check.yes("row of an account that is younger than the batch", ledger.row(0, 0, 1));
        Check.no("row of the next account", ledger.row(0, 1, 1));
        DutyLedger other = Made.withAccounts(0);
        Check.no("row without batches", other.row(0, 0, 1));
    }

    /** "false if there is no such batch": the last one there is and the first there isn't. */
    private static void noSuchBatch() {
        DutyLedger ledger = Made.withAccounts(0, 1);
        Made.fillBatches(ledger, 99);
        for (int batch : new int[] {-1, 99, 100, Integer.MIN_VALUE, Integer.MAX_VALUE}) {
            Check.no("row(" + batch + ", 0, 1)", ledger.row(batch, 0, 1));
        }
        Check.yes("row(98, 0, 1)", ledger.row(98, 0, 1));
        ledger.batch(0, 0);
        Check.due("rows of the batch begun behind that", ledger.look(99, 1), 0);
        Check.yes("row(99, 0, 1)", ledger.row(99, 0, 1));
        Check.no("row(100, 0, 1)", ledger.row(100, 0, 1));
    }

    /** "or account": with some accounts, and with all 12. */
    private static void noSuchAccount() {
        DutyLedger some = Made.withAccounts(0, 1);
        some.batch(0, 0);
        for (int account : new int[] {-1, 2, 11, 12, Integer.MIN_VALUE, Integer.MAX_VALUE}) {
            Check.no("row(0, " + account + ", 1)", some.row(0, account, 1));
        }
        Check.due("look(0, 1)", some.look(0, 1), 0);
        Check.yes("row(0, 1, 1)", some.row(0, 1, 1));
        DutyLedger all = Made.withAccounts(0, 1, 2, 3, 4, 5, 0, 1, 2, 3, 4, 5);
        all.batch(0, 0);
        Check.yes("row(0, 11, 1)", all.row(0, 11, 1));
        Check.no("row(0, 12, 1)", all.row(0, 12, 1));
    }

    /** "or it has 20": the 20th is taken, the 21st is not. */
    private static void twentyAtMost() {
        DutyLedger ledger = Made.withAccounts(0, 1);
        int batch = Made.openRows(ledger, 0, 19);
        Check.yes("row 20", ledger.row(batch, 0, 3));
        Check.no("row 21", ledger.row(batch, 0, -3));
        Check.no("row 21 again", ledger.row(batch, 1, -3));
        Check.due("look(0, 1)", ledger.look(batch, 1), 20);
        int even = Made.openRows(ledger, 0, 20);
        Check.no("row 21", ledger.row(even, 0, 3));
        Check.due("post", ledger.post(even), 1);
        Check.due("count(2)", ledger.count(2), 20);
        Check.due("read(19, 2)", ledger.read(19, 2), -1);
    }

    private static void aRefusedRowTakesNoRoom() {
        DutyLedger ledger = Made.withAccounts(0, 1);
        ledger.batch(0, 0);
        for (int i = 0; i < 25; i++) {
            Check.no("row of no cents", ledger.row(0, 0, 0));
            Check.no("row of no account", ledger.row(0, 2, 1));
        }
        for (int i = 0; i < 20; i++) {
            Check.yes("row " + i, ledger.row(0, i % 2, i % 2 == 0 ? 3 : -3));
        }
        Check.due("post", ledger.post(0), 1);
        Check.due("balance", ledger.balance(0, 0, 0), 30);
    }

    /** "as long as it is OPEN": none of a posted, a VOID one, or a reversal. */
    private static void openOnesAlone() {
        DutyLedger ledger = Made.withAccounts(0, 1);
        int posted = Made.posted(ledger, 0, 0, 0, 1, 5);
        int reversal = ledger.reverse(posted, 0);
        int empty = Made.emptyVoid(ledger);
        for (int batch : new int[] {posted, reversal, empty}) {
            Check.no("row(" + batch + ", 0, 1)", ledger.row(batch, 0, 1));
        }
        Check.due("rows of the posted one", ledger.look(posted, 1), 2);
        Check.due("rows of the reversal", ledger.look(reversal, 1), 2);
        Check.due("rows of the VOID one", ledger.look(empty, 1), 0);
        Check.due("rows of the ledger", ledger.count(2), 4);
    }

    /** "and the batch is OPEN as before": it takes rows up to 20, as before. */
    private static void openAgainBehindAFailure() {
        DutyLedger ledger = Made.withAccounts(0, 1);
        int batch = Made.openRows(ledger, 0, 18);
        ledger.fails(batch, true);
        Check.thrown("post", Check.FAILED, () -> ledger.post(batch));
        Check.yes("row 19", ledger.row(batch, 0, 4));
        Check.yes("row 20", ledger.row(batch, 1, -4));
        Check.no("row 21", ledger.row(batch, 0, 4));
        Check.due("post", ledger.post(batch), 1);
        Check.due("balance", ledger.balance(0, 0, 0), 13);
    }
}
