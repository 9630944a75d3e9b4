/** Promise 9: balance. */
public final class BalanceTest {
    public static void main(String[] args) {
        bothDays();
        wide();
        noSuchAccountOrDay();
        Check.finish();
    }

    private static void bothDays() {
        DutyLedger ledger = Made.withAccounts(0, 0, 1);
        Made.posted(ledger, 50, 20, 0, 1, 1);
        Made.posted(ledger, 10, 30, 0, 2, 10);
        Made.posted(ledger, 30, 30, 1, 2, 100);
        Made.posted(ledger, 0, 40, 0, 1, 1000);
        Made.open(ledger, 0, 40, 0, 1, 10000);
        // account, day, known day, balance
        int[][] due = {
            {0, 50, 40, 1011}, {0, 49, 40, 1010}, {0, 10, 40, 1010}, {0, 9, 40, 1000}, {0, 0, 40, 1000},
            {0, 50, 39, 11}, {0, 50, 30, 11}, {0, 50, 29, 1}, {0, 50, 20, 1}, {0, 50, 19, 0}, {0, 0, 0, 0},
            {0, 100000, 100000, 1011}, {0, 9, 39, 0}, {0, 49, 29, 0},
            {1, 100000, 100000, -901}, {1, 30, 30, 100}, {1, 29, 30, 0}, {1, 50, 30, 99}, {1, 0, 40, -1000},
            {2, 100000, 100000, -110}, {2, 10, 100000, -10}, {2, 100000, 29, 0}};
        for (int[] row : due) {
            Check.due("balance(" + row[0] + ", " + row[1] + ", " + row[2] + ")",
                    ledger.balance(row[0], row[1], row[2]), row[3]);
        }
    }

    private static void wide() {
        DutyLedger ledger = Made.withAccounts(0, 1);
        for (int i = 0; i < 10; i++) {
            Made.posted(ledger, 100000, 100000, 0, 1, 1000000000);
        }
        Check.due("balance beyond an int", ledger.balance(0, 100000, 100000), 10000000000L);
        Check.due("balance beyond an int", ledger.balance(1, 100000, 100000), -10000000000L);
        Check.due("balance", ledger.balance(0, 99999, 100000), 0);
        Check.due("balance", ledger.balance(0, 100000, 99999), 0);
    }

    private static void noSuchAccountOrDay() {
        DutyLedger ledger = Made.withAccounts(0, 1);
        for (int number : new int[] {-1, 100001, Integer.MIN_VALUE, Integer.MAX_VALUE}) {
            Check.thrown("balance(" + number + ", 0, 0)", Check.ARGUMENT, () -> ledger.balance(number, 0, 0));
            Check.thrown("balance(0, " + number + ", 0)", Check.ARGUMENT, () -> ledger.balance(0, number, 0));
            Check.thrown("balance(0, 0, " + number + ")", Check.ARGUMENT, () -> ledger.balance(0, 0, number));
        }
        Check.thrown("balance(2, 0, 0)", Check.ARGUMENT, () -> ledger.balance(2, 0, 0));
        Check.due("balance(1, 0, 0)", ledger.balance(1, 0, 0), 0);
    }
}
