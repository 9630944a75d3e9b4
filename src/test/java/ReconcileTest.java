/** Promise 14: reconcile. */
public final class ReconcileTest {
    public static void main(String[] args) {
        sums();
        nothingYet();
        firstAndLastDay();
        wide();
        noSuchAccounts();
        theSame();
        noSuchDays();
        Check.finish();
    }

    private static void sums() {
        DutyLedger ledger = Made.withAccounts(0, 0, 1);
        Made.posted(ledger, 10, 20, 0, 1, 500);
        Made.posted(ledger, 40, 20, 2, 1, 70);
        Made.posted(ledger, 10, 21, 0, 2, 3);
        // account, other, day, known day, sum
        int[][] due = {
            {0, 1, 10, 20, 0}, {0, 1, 39, 20, 0}, {0, 1, 40, 20, -70}, {1, 0, 40, 20, -70}, {0, 1, 40, 19, 0},
            {0, 2, 10, 20, 500}, {2, 0, 40, 20, 570}, {0, 1, 10, 21, 3}, {0, 2, 10, 21, 500}, {1, 2, 40, 21, -503},
            {0, 1, 100000, 100000, -67}, {0, 1, 0, 0, 0}};
        for (int[] row : due) {
            Check.due("reconcile(" + row[0] + ", " + row[1] + ", " + row[2] + ", " + row[3] + ")",
                    ledger.reconcile(row[0], row[1], row[2], row[3]), row[4]);
        }
    }

    private static void nothingYet() {
        DutyLedger ledger = Made.withAccounts(0, 1);
        Check.due("reconcile(1, 0, 0, 0)", ledger.reconcile(1, 0, 0, 0), 0);
        Check.due("reconcile(1, 0, 100000, 100000)", ledger.reconcile(1, 0, 100000, 100000), 0);
    }

    private static void firstAndLastDay() {
        DutyLedger ledger = Made.withAccounts(0, 0, 1);
        Made.posted(ledger, 0, 0, 0, 1, 500);
        Made.posted(ledger, 100000, 100000, 0, 1, 30);
        Check.due("reconcile(0, 2, 0, 0)", ledger.reconcile(0, 2, 0, 0), 500);
        Check.due("reconcile(2, 1, 0, 0)", ledger.reconcile(2, 1, 0, 0), -500);
        Check.due("reconcile(0, 2, 99999, 100000)", ledger.reconcile(0, 2, 99999, 100000), 500);
        Check.due("reconcile(0, 2, 100000, 99999)", ledger.reconcile(0, 2, 100000, 99999), 500);
        Check.due("reconcile(0, 2, 100000, 100000)", ledger.reconcile(0, 2, 100000, 100000), 530);
    }

    /** More than an int holds, of both accounts. */
    private static void wide() {
        DutyLedger ledger = Made.withAccounts(0, 0, 1);
        for (int i = 0; i < 4; i++) {
            Made.posted(ledger, 0, 0, i % 2, 2, 1000000000);
        }
        Check.due("reconcile(0, 1, 0, 0)", ledger.reconcile(0, 1, 0, 0), 4000000000L);
    }

    /** "IllegalArgumentException if there are no such accounts": none yet, some, and all 12. */
    private static void noSuchAccounts() {
        DutyLedger ledger = new DutyLedger();
        Check.thrown("reconcile without accounts", Check.ARGUMENT, () -> ledger.reconcile(0, 1, 0, 0));
        ledger.account(0);
        for (int made = 1; made < 12; made++) {
            int next = made;
            Check.thrown("reconcile account " + made, Check.ARGUMENT, () -> ledger.reconcile(next, 0, 0, 0));
            Check.thrown("reconcile with account " + made, Check.ARGUMENT, () -> ledger.reconcile(0, next, 0, 0));
            ledger.account(0);
            Check.due("reconcile account " + made, ledger.reconcile(made, 0, 0, 0), 0);
            Check.due("reconcile with account " + made, ledger.reconcile(0, made, 0, 0), 0);
        }
        for (int account : new int[] {-1, 12, Integer.MIN_VALUE, Integer.MAX_VALUE}) {
            Check.thrown("reconcile account " + account, Check.ARGUMENT, () -> ledger.reconcile(account, 0, 0, 0));
            Check.thrown("reconcile with account " + account, Check.ARGUMENT,
                    () -> ledger.reconcile(0, account, 0, 0));
        }
    }

    /** "they are the same". */
    private static void theSame() {
        DutyLedger ledger = Made.withAccounts(0, 1, 2);
        for (int account = 0; account < 3; account++) {
            int of = account;
            Check.thrown("reconcile " + account + " with itself", Check.ARGUMENT,
                    () -> ledger.reconcile(of, of, 0, 0));
        }
    }

    /** "or these are no days". */
    private static void noSuchDays() {
        DutyLedger ledger = Made.withAccounts(0, 1);
        for (int day : new int[] {-1, 100001, Integer.MIN_VALUE, Integer.MAX_VALUE}) {
            Check.thrown("day " + day, Check.ARGUMENT, () -> ledger.reconcile(0, 1, day, 0));
            Check.thrown("known day " + day, Check.ARGUMENT, () -> ledger.reconcile(0, 1, 0, day));
        }
    }
}
