/** Promise 14: reconcile. */
public final class ReconcileTest {
    public static void main(String[] args) {
        sums();
        firstDay();
        noSuchAccountsOrDays();
        Check.finish();
    }

    private static void sums() {
        DutyLedger ledger = Made.withAccounts(0, 0, 1);
        Made.posted(ledger, 10, 20, 0, 1, 500);
        Made.posted(ledger, 40, 20, 2, 1, 70);
        Made.posted(ledger, 10, 21, 0, 2, 3);
        // account, other, day, known day, sum
        int[][] due = {
            {0, 1, 10, 20, 0}, {0, 1, 39, 20, 0}, {0, 1, 40, 20, -70}, {1, 0, 40, 20, -70}, {0, 1, 40, 19, 0},
            {0, 2, 10, 20, 500}, {2, 0, 40, 20, 570}, {0, 1, 10, 21, 3}, {0, 2, 10, 21, 500}, {1, 2, 40, 21, -503},
            {0, 1, 100000, 100000, -67}, {0, 1, 0, 0, 0}};
        for (int[] row : due) {
            Check.due("reconcile(" + row[0] + ", " + row[1] + ", " + row[2] + ", " + row[3] + ")",
                    ledger.reconcile(row[0], row[1], row[2], row[3]), row[4]);
        }
    }

    private static void firstDay() {
        DutyLedger ledger = Made.withAccounts(0, 0, 1);
        Made.posted(ledger, 0, 0, 0, 1, 500);
        Check.due("reconcile(0, 2, 0, 0)", ledger.reconcile(0, 2, 0, 0), 500);
        Check.due("reconcile(2, 1, 0, 0)", ledger.reconcile(2, 1, 0, 0), -500);
    }

    private static void noSuchAccountsOrDays() {
        DutyLedger ledger = Made.withAccounts(0, 1);
        for (int number : new int[] {-1, 100001, Integer.MIN_VALUE, Integer.MAX_VALUE}) {
            Check.thrown("account " + number, Check.ARGUMENT, () -> ledger.reconcile(number, 0, 0, 0));
            Check.thrown("other " + number, Check.ARGUMENT, () -> ledger.reconcile(0, number, 0, 0));
            Check.thrown("day " + number, Check.ARGUMENT, () -> ledger.reconcile(0, 1, number, 0));
            Check.thrown("known " + number, Check.ARGUMENT, () -> ledger.reconcile(0, 1, 0, number));
        }
        Check.thrown("reconcile(2, 0, 0, 0)", Check.ARGUMENT, () -> ledger.reconcile(2, 0, 0, 0));
        Check.thrown("reconcile(0, 2, 0, 0)", Check.ARGUMENT, () -> ledger.reconcile(0, 2, 0, 0));
        Check.thrown("reconcile(0, 0, 0, 0)", Check.ARGUMENT, () -> ledger.reconcile(0, 0, 0, 0));
        Check.thrown("reconcile(1, 1, 0, 0)", Check.ARGUMENT, () -> ledger.reconcile(1, 1, 0, 0));
        Check.due("reconcile(1, 0, 100000, 100000)", ledger.reconcile(1, 0, 100000, 100000), 0);
    }
}
