/** Promise 16: look. */
public final class LookTest {
    public static void main(String[] args) {
        everyState();
        noneSuch();
        Check.finish();
    }

    private static void everyState() {
        DutyLedger ledger = Made.withAccounts(0, 1);
        Made.open(ledger, 11, 21, 0, 1, 5);
        Made.posted(ledger, 12, 22, 0, 1, 5);
        int uneven = ledger.batch(13, 23);
        ledger.row(uneven, 0, 5);
        Check.thrown("post", Check.STATE, () -> ledger.post(uneven));
        ledger.reverse(1, 24);
        int told = ledger.batch(15, 25);
        ledger.row(told, 0, 5);
        ledger.fails(told, true);
        Made.posted(ledger, 16, 26, 0, 1, 5);
        int[][] due = {
            {0, 2, -1, -1, 0, 11, 21},
            {1, 2, -1, 3, 0, 12, 22},
            {2, 0, -1, -1, 0, 13, 23},
            {1, 2, 1, -1, 0, 12, 24},
            {0, 1, -1, -1, 1, 15, 25},
            {1, 2, -1, -1, 0, 16, 26}};
        for (int batch = 0; batch < due.length; batch++) {
            for (int what = 0; what <= 6; what++) {
                Check.due("look(" + batch + ", " + what + ")", ledger.look(batch, what), due[batch][what]);
            }
        }
    }

    private static void noneSuch() {
        DutyLedger ledger = new DutyLedger();
        ledger.batch(0, 0);
        for (int number : new int[] {-1, 100, Integer.MIN_VALUE, Integer.MAX_VALUE}) {
            Check.thrown("look(" + number + ", 0)", Check.INDEX, () -> ledger.look(number, 0));
            Check.thrown("look(0, " + number + ")", Check.INDEX, () -> ledger.look(0, number));
        }
        Check.thrown("look(1, 0)", Check.INDEX, () -> ledger.look(1, 0));
        Check.thrown("look(0, 7)", Check.INDEX, () -> ledger.look(0, 7));
        Made.fillBatches(ledger, 100);
        Check.due("look(99, 0)", ledger.look(99, 0), 0);
        Check.thrown("look(100, 0)", Check.INDEX, () -> ledger.look(100, 0));
    }
}
