/** Promise 2: account. */
public final class AccountTest {
    public static void main(String[] args) {
        numbers();
        noSuchKind();
        twelveAtMost();
        Check.finish();
    }

    private static void numbers() {
        DutyLedger ledger = new DutyLedger();
        for (int i = 0; i < 12; i++) {
            Check.due("account", ledger.account(i % 6), i);
            Check.due("count(0)", ledger.count(0), i + 1);
        }
    }

    private static void noSuchKind() {
        DutyLedger ledger = new DutyLedger();
        for (int kind : new int[] {-1, 6, Integer.MIN_VALUE, Integer.MAX_VALUE}) {
            Check.thrown("account(" + kind + ")", Check.ARGUMENT, () -> ledger.account(kind));
        }
        Check.due("count(0)", ledger.count(0), 0);
        Check.due("account(5)", ledger.account(5), 0);
    }

    private static void twelveAtMost() {
        DutyLedger ledger = Made.withAccounts(0, 0, 0, 0, 0, 0, 0, 0, 0, 0, 0, 0);
        Check.thrown("the 13th account", Check.STATE, () -> ledger.account(0));
        Check.thrown("the 13th account, of no kind", Check.ARGUMENT, () -> ledger.account(6));
        Check.due("count(0)", ledger.count(0), 12);
    }
}
