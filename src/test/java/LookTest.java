/** Promise 16: look. */
public final class LookTest {
    public static void main(String[] args) {
        everyState();
        noBatchYet();
        noSuchBatch();
        noSuchWhat();
        Check.finish();
    }

    private static void everyState() {
        DutyLedger ledger = Made.withAccounts(0, 1);
        Made.open(ledger, 11, 21, 0, 1, 5);
        Made.posted(ledger, 12, 22, 0, 1, 5);
        int uneven = ledger.batch(13, 23);
        ledger.row(uneven, 0, 5);
        Check.thrown("post", Check.STATE, () -> ledger.post(uneven));
        ledger.reverse(1, 24);
        int told = ledger.batch(15, 25);
        ledger.row(told, 0, 5);
        ledger.fails(told, true);
        Made.posted(ledger, 16, 26, 0, 1, 5);
        int[][] due = {
            {0, 2, -1, -1, 0, 11, 21},
            {1, 2, -1, 3, 0, 12, 22},
            {2, 0, -1, -1, 0, 13, 23},
            {1, 2, 1, -1, 0, 12, 24},
            {0, 1, -1, -1, 1, 15, 25},
            {1, 2, -1, -1, 0, 16, 26}};
        for (int batch = 0; batch < due.length; batch++) {
            for (int what = 0; what <= 6; what++) {
                Check.due("look(" + batch + ", " + what + ")", ledger.look(batch, what), due[batch][what]);
            }
        }
    }

    private static void noBatchYet() {
        DutyLedger ledger = new DutyLedger();
        for (int what = 0; what <= 6; what++) {
            int of = what;
            Check.thrown("look(0, " + what + ")", Check.INDEX, () -> ledger.look(0, of));
        }
    }

    /** "IndexOutOfBoundsException if there is no such batch": the last one and the first that isn't. */
    private static void noSuchBatch() {
        DutyLedger ledger = new DutyLedger();
        Made.fillBatches(ledger, 99);
        for (int batch : new int[] {-1, 99, 100, Integer.MIN_VALUE, Integer.MAX_VALUE}) {
            for (int what = 0; what <= 6; what++) {
                int of = what;
                Check.thrown("look(" + batch + ", " + what + ")", Check.INDEX, () -> ledger.look(batch, of));
            }
        }
        Check.due("look(98, 3)", ledger.look(98, 3), -1);
        ledger.batch(8, 9);
        Check.due("look(99, 6)", ledger.look(99, 6), 9);
        Check.thrown("look(100, 0)", Check.INDEX, () -> ledger.look(100, 0));
    }

    /** "or what": 0 to 6 are such. */
    private static void noSuchWhat() {
        DutyLedger ledger = new DutyLedger();
        ledger.batch(8, 9);
        for (int what : new int[] {-1, 7, Integer.MIN_VALUE, Integer.MAX_VALUE}) {
            Check.thrown("look(0, " + what + ")", Check.INDEX, () -> ledger.look(0, what));
            Check.thrown("look(1, " + what + ")", Check.INDEX, () -> ledger.look(1, what));
        }
        Check.due("look(0, 0)", ledger.look(0, 0), 0);
        Check.due("look(0, 6)", ledger.look(0, 6), 9);
    }
}
