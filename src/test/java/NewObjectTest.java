/** Promise 1: a new object has no accounts, batches, parts and costs. */
public final class NewObjectTest {
    private static final int[] COUNTS = {0, 0, 0, -1, -1, 0, -1, 0, 0};

    public static void main(String[] args) {
        counts();
        noAccountsAndBatches();
        noPartsAndCosts();
        objectsAreApart();
        Check.finish();
    }

    private static void counts() {
        DutyLedger ledger = new DutyLedger();
        for (int what = 0; what < COUNTS.length; what++) {
            Check.due("count(" + what + ") of a new object", ledger.count(what), COUNTS[what]);
        }
    }

    private static void noAccountsAndBatches() {
        DutyLedger ledger = new DutyLedger();
        Check.thrown("balance(0, 0, 0)", Check.ARGUMENT, () -> ledger.balance(0, 0, 0));
        Check.thrown("look(0, 0)", Check.INDEX, () -> ledger.look(0, 0));
        Check.thrown("read(0, 0)", Check.INDEX, () -> ledger.read(0, 0));
        Check.thrown("post(0)", Check.ARGUMENT, () -> ledger.post(0));
    }

    private static void noPartsAndCosts() {
        int[] due = {0, 0, 0, 0, 0, 500, 500};
        for (int kind = 0; kind <= 5; kind++) {
            DutyLedger ledger = Made.withAccounts(kind, kind == 0 ? 1 : 0);
            Made.posted(ledger, 0, 0, 0, 1, 500);
            for (int what = 0; what < due.length; what++) {
                Check.due("passed(" + kind + ", " + what + ", 0)", ledger.passed(kind, what, 0), due[what]);
            }
        }
    }

    private static void objectsAreApart() {
        DutyLedger one = Made.withAccounts(0, 1);
        Made.posted(one, 0, 7, 0, 1, 500);
        one.close(9);
        DutyLedger other = new DutyLedger();
        for (int what = 0; what < COUNTS.length; what++) {
            Check.due("count(" + what + ") of another object", other.count(what), COUNTS[what]);
        }
    }
}
