/** Promise 10: statement. */
public final class StatementTest {
    public static void main(String[] args) {
        months();
        lastMonth();
        noSuchAccountMonthOrDay();
        Check.finish();
    }

    private static void months() {
        DutyLedger ledger = Made.withAccounts(0, 0);
        Made.posted(ledger, 0, 5, 0, 1, 1);
        Made.posted(ledger, 29, 5, 0, 1, 10);
        Made.posted(ledger, 30, 5, 0, 1, 100);
        Made.posted(ledger, 59, 6, 0, 1, 1000);
        Made.posted(ledger, 60, 6, 0, 1, 10000);
        Made.posted(ledger, 31, 7, 1, 0, 5);
        // account, month, known day, statement
        int[][] due = {
            {0, 0, 5, 11}, {0, 0, 4, 0}, {0, 1, 5, 100}, {0, 1, 6, 1100}, {0, 1, 7, 1095}, {0, 2, 5, 0},
            {0, 2, 6, 10000}, {0, 3, 100000, 0}, {1, 1, 7, -1095}, {1, 0, 100000, -11}};
        for (int[] row : due) {
            Check.due("statement(" + row[0] + ", " + row[1] + ", " + row[2] + ")",
                    ledger.statement(row[0], row[1], row[2]), row[3]);
        }
    }

    private static void lastMonth() {
        DutyLedger ledger = Made.withAccounts(0, 0);
        Made.posted(ledger, 99989, 0, 0, 1, 1);
        Made.posted(ledger, 99990, 0, 0, 1, 10);
        Made.posted(ledger, 100000, 0, 0, 1, 100);
        Check.due("statement(0, 3333, 0)", ledger.statement(0, 3333, 0), 110);
        Check.due("statement(0, 3332, 0)", ledger.statement(0, 3332, 0), 1);
    }

    private static void noSuchAccountMonthOrDay() {
        DutyLedger ledger = Made.withAccounts(0, 1);
        for (int number : new int[] {-1, 100001, Integer.MIN_VALUE, Integer.MAX_VALUE}) {
            Check.thrown("statement(" + number + ", 0, 0)", Check.ARGUMENT, () -> ledger.statement(number, 0, 0));
            Check.thrown("statement(0, " + number + ", 0)", Check.ARGUMENT, () -> ledger.statement(0, number, 0));
            Check.thrown("statement(0, 0, " + number + ")", Check.ARGUMENT, () -> ledger.statement(0, 0, number));
        }
        Check.thrown("statement(2, 0, 0)", Check.ARGUMENT, () -> ledger.statement(2, 0, 0));
        Check.thrown("statement(0, 3334, 0)", Check.ARGUMENT, () -> ledger.statement(0, 3334, 0));
        Check.due("statement(1, 3333, 100000)", ledger.statement(1, 3333, 100000), 0);
    }
}
