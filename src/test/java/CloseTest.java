/** Promise 8: close. */
public final class CloseTest {
    public static void main(String[] args) {
        rises();
        noSuchDay();
        keepsOut();
        Check.finish();
    }

    private static void rises() {
        DutyLedger ledger = new DutyLedger();
        Check.yes("close(0)", ledger.close(0));
        Check.due("count(3)", ledger.count(3), 0);
        Check.no("close(0) again", ledger.close(0));
        Check.yes("close(7)", ledger.close(7));
        Check.no("close(6)", ledger.close(6));
        Check.no("close(7)", ledger.close(7));
        Check.due("count(3)", ledger.count(3), 7);
        Check.yes("close(100000)", ledger.close(100000));
        Check.no("close(100000) again", ledger.close(100000));
        Check.due("count(3)", ledger.count(3), 100000);
    }

    private static void noSuchDay() {
        DutyLedger ledger = new DutyLedger();
        for (int day : new int[] {-1, 100001, Integer.MIN_VALUE, Integer.MAX_VALUE}) {
            Check.no("close(" + day + ")", ledger.close(day));
        }
        Check.due("count(3)", ledger.count(3), -1);
    }

    private static void keepsOut() {
        DutyLedger ledger = Made.withAccounts(0, 1);
        int before = Made.posted(ledger, 0, 5, 0, 1, 5);
        int on = Made.open(ledger, 0, 9, 0, 1, 5);
        int behind = Made.open(ledger, 0, 10, 0, 1, 5);
        ledger.close(9);
        Check.thrown("post on the closed day", Check.STATE, () -> ledger.post(on));
        Check.due("count(5)", ledger.count(5), 3);
        Check.thrown("reverse on the closed day", Check.STATE, () -> ledger.reverse(before, 9));
        Check.due("post behind it", ledger.post(behind), 1);
        Check.due("what was posted before stays", ledger.balance(0, 0, 9), 5);
        Check.yes("a row may be told on a closed day", ledger.row(ledger.batch(0, 1), 0, 1));
    }
}
