/** Promise 9: balance. */
public final class BalanceTest {
    public static void main(String[] args) {
        nothingYet();
        bothDays();
        firstAndLastDay();
        postedRowsAlone();
        wide();
        noSuchAccount();
        noSuchDay();
        Check.finish();
    }

    private static void nothingYet() {
        DutyLedger ledger = Made.withAccounts(0);
        Check.due("balance(0, 0, 0)", ledger.balance(0, 0, 0), 0);
        Check.due("balance(0, 100000, 100000)", ledger.balance(0, 100000, 100000), 0);
    }

    /** "with a VALID day not behind the one, and a KNOWN day not behind the other". */
    private static void bothDays() {
        DutyLedger ledger = Made.withAccounts(0, 0, 1);
        Made.posted(ledger, 50, 20, 0, 1, 1);
        Made.posted(ledger, 10, 30, 0, 2, 10);
        Made.posted(ledger, 30, 30, 1, 2, 100);
        Made.posted(ledger, 0, 40, 0, 1, 1000);
        Made.open(ledger, 0, 40, 0, 1, 10000);
        // account, day, known day, balance
        int[][] due = {
            {0, 50, 40, 1011}, {0, 49, 40, 1010}, {0, 10, 40, 1010}, {0, 9, 40, 1000}, {0, 0, 40, 1000},
            {0, 50, 39, 11}, {0, 50, 30, 11}, {0, 50, 29, 1}, {0, 50, 20, 1}, {0, 50, 19, 0}, {0, 0, 0, 0},
            {0, 100000, 100000, 1011}, {0, 9, 39, 0}, {0, 49, 29, 0},
            {1, 100000, 100000, -901}, {1, 30, 30, 100}, {1, 29, 30, 0}, {1, 50, 30, 99}, {1, 0, 40, -1000},
            {2, 100000, 100000, -110}, {2, 10, 100000, -10}, {2, 100000, 29, 0}};
        for (int[] row : due) {
            Check.due("balance(" + row[0] + ", " + row[1] + ", " + row[2] + ")",
                    ledger.balance(row[0], row[1], row[2]), row[3]);
        }
    }

    private static void firstAndLastDay() {
        DutyLedger ledger = Made.withAccounts(0, 1);
        Made.posted(ledger, 0, 0, 0, 1, 5);
        Made.posted(ledger, 100000, 0, 0, 1, 70);
        Made.posted(ledger, 0, 100000, 0, 1, 900);
        int[][] due = {{0, 0, 5}, {99999, 99999, 5}, {100000, 0, 75}, {0, 100000, 905}, {100000, 100000, 975}};
        for (int[] row : due) {
            Check.due("balance(0, " + row[0] + ", " + row[1] + ")", ledger.balance(0, row[0], row[1]), row[2]);
        }
    }

    /** "its rows" are those of the ledger: none of an open, a VOID or a failed batch. */
    private static void postedRowsAlone() {
        DutyLedger ledger = Made.withAccounts(0, 1);
        Made.open(ledger, 0, 0, 0, 1, 5);
        int failed = Made.open(ledger, 0, 0, 0, 1, 70);
        ledger.fails(failed, true);
        Check.thrown("post", Check.FAILED, () -> ledger.post(failed));
        int uneven = ledger.batch(0, 0);
        ledger.row(uneven, 0, 900);
        Check.thrown("post", Check.STATE, () -> ledger.post(uneven));
        Check.due("balance", ledger.balance(0, 100000, 100000), 0);
    }

    /** More than an int holds. */
    private static void wide() {
        DutyLedger ledger = Made.withAccounts(0, 1);
        for (int i = 0; i < 10; i++) {
            Made.posted(ledger, 100000, 100000, 0, 1, 1000000000);
        }
        Check.due("balance beyond an int", ledger.balance(0, 100000, 100000), 10000000000L);
        Check.due("balance beyond an int", ledger.balance(1, 100000, 100000), -10000000000L);
        Check.due("balance", ledger.balance(0, 99999, 100000), 0);
        Check.due("balance", ledger.balance(0, 100000, 99999), 0);
    }

    /** "IllegalArgumentException if there is no such account": none yet, some, and all 12. */
    private static void noSuchAccount() {
        DutyLedger ledger = new DutyLedger();
        Check.thrown("balance without accounts", Check.ARGUMENT, () -> ledger.balance(0, 0, 0));
        for (int made = 1; made <= 12; made++) {
            ledger.account(0);
            int next = made;
            Check.due("balance of the last account", ledger.balance(made - 1, 0, 0), 0);
            Check.thrown("balance of account " + made, Check.ARGUMENT, () -> ledger.balance(next, 0, 0));
        }
        for (int account : new int[] {-1, Integer.MIN_VALUE, Integer.MAX_VALUE}) {
            Check.thrown("balance of account " + account, Check.ARGUMENT, () -> ledger.balance(account, 0, 0));
        }
    }

    /** "or these are no days". */
    private static void noSuchDay() {
        DutyLedger ledger = Made.withAccounts(0, 1);
        for (int day : new int[] {-1, 100001, Integer.MIN_VALUE, Integer.MAX_VALUE}) {
            Check.thrown("balance(0, " + day + ", 0)", Check.ARGUMENT, () -> ledger.balance(0, day, 0));
            Check.thrown("balance(0, 0, " + day + ")", Check.ARGUMENT, () -> ledger.balance(0, 0, day));
        }
    }
}
