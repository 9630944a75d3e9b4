/** Promise 10: statement. */
public final class StatementTest {
    public static void main(String[] args) {
        nothingYet();
        months();
        lastMonth();
        firstAndLastKnownDay();
        wide();
        noSuchAccount();
        noSuchMonth();
        noSuchDay();
        Check.finish();
    }

    private static void nothingYet() {
        DutyLedger ledger = Made.withAccounts(0);
        Check.due("statement(0, 0, 0)", ledger.statement(0, 0, 0), 0);
        Check.due("statement(0, 3333, 100000)", ledger.statement(0, 3333, 100000), 0);
    }

    /** "a MONTH m has days 30 * m to 30 * m + 29". */
    private static void months() {
        DutyLedger ledger = Made.withAccounts(0, 0);
        Made.posted(ledger, 0, 5, 0, 1, 1);
        Made.posted(ledger, 29, 5, 0, 1, 10);
        Made.posted(ledger, 30, 5, 0, 1, 100);
        Made.posted(ledger, 59, 6, 0, 1, 1000);
        Made.posted(ledger, 60, 6, 0, 1, 10000);
        Made.posted(ledger, 31, 7, 1, 0, 5);
        // account, month, known day, statement
        int[][] due = {
            {0, 0, 5, 11}, {0, 0, 4, 0}, {0, 1, 5, 100}, {0, 1, 6, 1100}, {0, 1, 7, 1095}, {0, 2, 5, 0},
            {0, 2, 6, 10000}, {0, 3, 100000, 0}, {1, 1, 7, -1095}, {1, 0, 100000, -11}};
        for (int[] row : due) {
            Check.due("statement(" + row[0] + ", " + row[1] + ", " + row[2] + ")",
                    ledger.statement(row[0], row[1], row[2]), row[3]);
        }
    }

    /** Month 3333 ends with the last day, 100000. */
    private static void lastMonth() {
        DutyLedger ledger = Made.withAccounts(0, 0);
        Made.posted(ledger, 99989, 0, 0, 1, 1);
        Made.posted(ledger, 99990, 0, 0, 1, 10);
        Made.posted(ledger, 100000, 0, 0, 1, 100);
        Check.due("statement(0, 3333, 0)", ledger.statement(0, 3333, 0), 110);
        Check.due("statement(0, 3332, 0)", ledger.statement(0, 3332, 0), 1);
    }

    private static void firstAndLastKnownDay() {
        DutyLedger ledger = Made.withAccounts(0, 0);
        Made.posted(ledger, 45, 0, 0, 1, 5);
        Made.posted(ledger, 45, 100000, 0, 1, 70);
        Check.due("statement(0, 1, 0)", ledger.statement(0, 1, 0), 5);
        Check.due("statement(0, 1, 99999)", ledger.statement(0, 1, 99999), 5);
        Check.due("statement(0, 1, 100000)", ledger.statement(0, 1, 100000), 75);
    }

    /** More than an int holds. */
    private static void wide() {
        DutyLedger ledger = Made.withAccounts(0, 0);
        for (int i = 0; i < 5; i++) {
            Made.posted(ledger, 30 + i, 0, 0, 1, 1000000000);
        }
        Check.due("statement(0, 1, 0)", ledger.statement(0, 1, 0), 5000000000L);
        Check.due("statement(1, 1, 0)", ledger.statement(1, 1, 0), -5000000000L);
    }

    /** "IllegalArgumentException if there is no such account": none yet, some, and all 12. */
    private static void noSuchAccount() {
        DutyLedger ledger = new DutyLedger();
        Check.thrown("statement without accounts", Check.ARGUMENT, () -> ledger.statement(0, 0, 0));
        for (int made = 1; made <= 12; made++) {
            ledger.account(0);
            int next = made;
            Check.due("statement of the last account", ledger.statement(made - 1, 0, 0), 0);
            Check.thrown("statement of account " + made, Check.ARGUMENT, () -> ledger.statement(next, 0, 0));
        }
        for (int account : new int[] {-1, Integer.MIN_VALUE, Integer.MAX_VALUE}) {
            Check.thrown("statement of account " + account, Check.ARGUMENT, () -> ledger.statement(account, 0, 0));
        }
    }

    /** "month (0 .. 3333)": also none whose days would wrap around to days there are. */
    private static void noSuchMonth() {
        DutyLedger ledger = Made.withAccounts(0, 1);
        for (int month : new int[] {-1, 3334, 143165577, -143165576, Integer.MIN_VALUE, Integer.MAX_VALUE}) {
            Check.thrown("statement(0, " + month + ", 0)", Check.ARGUMENT, () -> ledger.statement(0, month, 0));
        }
        Check.due("statement(0, 0, 0)", ledger.statement(0, 0, 0), 0);
        Check.due("statement(0, 3333, 0)", ledger.statement(0, 3333, 0), 0);
    }

    /** "or day". */
    private static void noSuchDay() {
        DutyLedger ledger = Made.withAccounts(0, 1);
        for (int day : new int[] {-1, 100001, Integer.MIN_VALUE, Integer.MAX_VALUE}) {
            Check.thrown("statement(0, 0, " + day + ")", Check.ARGUMENT, () -> ledger.statement(0, 0, day));
        }
    }
}
