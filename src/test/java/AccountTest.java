/** Promise 2: account. */
public final class AccountTest {
    public static void main(String[] args) {
        numbers();
        kinds();
        noSuchKind();
        twelveAtMost();
        refusedOnesMakeNone();
        Check.finish();
    }

    /** "One more account: its number." */
    private static void numbers() {
        DutyLedger ledger = new DutyLedger();
        for (int i = 0; i < 12; i++) {
            Check.due("account", ledger.account(i % 6), i);
            Check.due("count(0)", ledger.count(0), i + 1);
        }
    }

    /** "ACCOUNTS .. are of a KIND 0 .. 5": the first and the last one are kept as told. */
    private static void kinds() {
        for (int kind = 0; kind <= 5; kind++) {
            DutyLedger ledger = new DutyLedger();
            Check.due("account(" + kind + ")", ledger.account(kind), 0);
            ledger.account(kind == 0 ? 5 : kind - 1);
            Made.posted(ledger, 0, 0, 0, 1, 7);
            for (int asked = 0; asked <= 5; asked++) {
                Check.due("S of kind " + asked, ledger.passed(asked, 6, 0), asked == kind ? 7 : 0);
            }
        }
    }

    /** "IllegalArgumentException if there is no such kind". */
    private static void noSuchKind() {
        DutyLedger ledger = new DutyLedger();
        for (int kind : new int[] {-1, 6, Integer.MIN_VALUE, Integer.MAX_VALUE}) {
            Check.thrown("account(" + kind + ")", Check.ARGUMENT, () -> ledger.account(kind));
        }
        Check.due("count(0)", ledger.count(0), 0);
    }

    /** "IllegalStateException if there are 12": the 12th is made and of use, the 13th is not. */
    private static void twelveAtMost() {
        DutyLedger ledger = Made.withAccounts(0, 0, 0, 0, 0, 0, 0, 0, 0, 0, 0);
        Check.due("the 12th account", ledger.account(1), 11);
        Check.thrown("the 13th account", Check.STATE, () -> ledger.account(1));
        Check.thrown("the 13th account, of no kind", Check.ARGUMENT, () -> ledger.account(6));
        Check.due("count(0)", ledger.count(0), 12);
        Made.posted(ledger, 0, 0, 11, 10, 5);
        Check.due("balance of the 12th account", ledger.balance(11, 0, 0), 5);
        Check.due("S of its kind", ledger.passed(1, 6, 0), 5);
    }

    private static void refusedOnesMakeNone() {
        DutyLedger ledger = Made.withAccounts(3);
        Check.thrown("account(6)", Check.ARGUMENT, () -> ledger.account(6));
        Check.thrown("account(-1)", Check.ARGUMENT, () -> ledger.account(-1));
        Check.due("the next number", ledger.account(4), 1);
        Check.due("count(0)", ledger.count(0), 2);
    }
}
