/** Promise 4: row. */
public final class RowTest {
    public static void main(String[] args) {
        taken();
        cents();
        noSuchBatchOrAccount();
        twentyAtMost();
        openOnesAlone();
        Check.finish();
    }

    private static void taken() {
        DutyLedger ledger = Made.withAccounts(0, 1);
        ledger.batch(0, 0);
        ledger.batch(0, 0);
        Check.yes("row(1, 0, 9)", ledger.row(1, 0, 9));
        Check.yes("row(1, 0, 9) once more", ledger.row(1, 0, 9));
        Check.yes("row(0, 1, 4)", ledger.row(0, 1, 4));
        Check.due("look(0, 1)", ledger.look(0, 1), 1);
        Check.due("look(1, 1)", ledger.look(1, 1), 2);
        Check.due("count(2): none is in the ledger", ledger.count(2), 0);
        Check.due("balance", ledger.balance(0, 100000, 100000), 0);
    }

    private static void cents() {
        DutyLedger ledger = Made.withAccounts(0);
        ledger.batch(0, 0);
        long[] none = {0, 1000000001L, -1000000001L, Long.MAX_VALUE, Long.MIN_VALUE, 1L << 32};
        for (long cents : none) {
            Check.no("row(0, 0, " + cents + ")", ledger.row(0, 0, cents));
        }
        Check.due("look(0, 1)", ledger.look(0, 1), 0);
        for (long cents : new long[] {1, -1, 1000000000, -1000000000}) {
            Check.yes("row(0, 0, " + cents + ")", ledger.row(0, 0, cents));
        }
        Check.due("look(0, 1)", ledger.look(0, 1), 4);
    }

    private static void noSuchBatchOrAccount() {
        DutyLedger ledger = Made.withAccounts(0, 1);
        ledger.batch(0, 0);
        for (int number : new int[] {-1, 2, 12, Integer.MIN_VALUE, Integer.MAX_VALUE}) {
            Check.no("row(" + number + ", 0, 1)", ledger.row(number, 0, 1));
            Check.no("row(0, " + number + ", 1)", ledger.row(0, number, 1));
        }
        Check.no("row(1, 0, 1)", ledger.row(1, 0, 1));
        Check.due("look(0, 1)", ledger.look(0, 1), 0);
    }

    private static void twentyAtMost() {
        DutyLedger ledger = Made.withAccounts(0, 1);
        ledger.batch(0, 0);
        for (int i = 0; i < 20; i++) {
            Check.yes("row " + i, ledger.row(0, i % 2, i % 2 == 0 ? 3 : -3));
        }
        Check.no("row 20", ledger.row(0, 0, 3));
        Check.due("look(0, 1)", ledger.look(0, 1), 20);
        Check.due("post(0)", ledger.post(0), 1);
        Check.due("count(2)", ledger.count(2), 20);
    }

    private static void openOnesAlone() {
        DutyLedger ledger = Made.withAccounts(0, 1);
        int posted = Made.posted(ledger, 0, 0, 0, 1, 5);
        int reversal = ledger.reverse(posted, 0);
        int empty = ledger.batch(0, 0);
        Check.thrown("post of no rows", Check.STATE, () -> ledger.post(empty));
        for (int batch : new int[] {posted, reversal, empty}) {
            Check.no("row(" + batch + ", 0, 1)", ledger.row(batch, 0, 1));
        }
        Check.due("rows of the posted one", ledger.look(posted, 1), 2);
        Check.due("rows of the void one", ledger.look(empty, 1), 0);
    }
}
