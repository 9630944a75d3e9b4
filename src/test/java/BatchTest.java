/** Promise 3: batch. */
public final class BatchTest {
    public static void main(String[] args) {
        begun();
        noSuchDay();
        hundredAtMost();
        Check.finish();
    }

    private static void begun() {
        DutyLedger ledger = new DutyLedger();
        Check.due("batch(0, 100000)", ledger.batch(0, 100000), 0);
        Check.due("batch(100000, 0)", ledger.batch(100000, 0), 1);
        Check.due("count(1)", ledger.count(1), 2);
        int[][] due = {{0, 0, -1, -1, 0, 0, 100000}, {0, 0, -1, -1, 0, 100000, 0}};
        for (int batch = 0; batch < 2; batch++) {
            for (int what = 0; what <= 6; what++) {
                Check.due("look(" + batch + ", " + what + ")", ledger.look(batch, what), due[batch][what]);
            }
        }
    }

    private static void noSuchDay() {
        DutyLedger ledger = new DutyLedger();
        for (int day : new int[] {-1, 100001, Integer.MIN_VALUE, Integer.MAX_VALUE}) {
            Check.thrown("batch(" + day + ", 0)", Check.ARGUMENT, () -> ledger.batch(day, 0));
            Check.thrown("batch(0, " + day + ")", Check.ARGUMENT, () -> ledger.batch(0, day));
        }
        Check.due("count(1)", ledger.count(1), 0);
    }

    private static void hundredAtMost() {
        DutyLedger ledger = Made.withAccounts(0, 1);
        Made.fillBatches(ledger, 97);
        Check.thrown("post of no rows", Check.STATE, () -> ledger.post(0));
        int posted = Made.posted(ledger, 0, 0, 0, 1, 5);
        Check.due("reverse", ledger.reverse(posted, 0), 98);
        Check.due("the 100th batch, void ones and reversals counted", ledger.batch(1, 1), 99);
        Check.thrown("the 101st batch", Check.STATE, () -> ledger.batch(1, 1));
        Check.thrown("the 101st batch, on no day", Check.ARGUMENT, () -> ledger.batch(1, 100001));
        Check.due("count(1)", ledger.count(1), 100);
    }
}
