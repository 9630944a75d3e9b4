/** Promise 3: batch. */
public final class BatchTest {
    public static void main(String[] args) {
        begun();
        firstAndLastDay();
        noSuchDay();
        begunThoughItCantBePosted();
        hundredAtMost();
        reversalsToo();
        refusedReversalsNot();
        Check.finish();
    }

    /** "A BATCH is begun: its number." */
    private static void begun() {
        DutyLedger ledger = new DutyLedger();
        for (int i = 0; i < 3; i++) {
            Check.due("batch", ledger.batch(7 + i, 3 + i), i);
            int[] looks = {0, 0, -1, -1, 0, 7 + i, 3 + i};
            for (int what = 0; what <= 6; what++) {
                Check.due("look(" + i + ", " + what + ")", ledger.look(i, what), looks[what]);
            }
            Check.due("count(1)", ledger.count(1), i + 1);
        }
    }

    /** "DAYS are 0 .. 100000". */
    private static void firstAndLastDay() {
        DutyLedger ledger = new DutyLedger();
        Check.due("batch(0, 100000)", ledger.batch(0, 100000), 0);
        Check.due("batch(100000, 0)", ledger.batch(100000, 0), 1);
        int[][] days = {{0, 100000}, {100000, 0}};
        for (int batch = 0; batch < 2; batch++) {
            Check.due("valid day", ledger.look(batch, 5), days[batch][0]);
            Check.due("known day", ledger.look(batch, 6), days[batch][1]);
        }
    }

    /** "IllegalArgumentException if these are no days": each by itself, and both. */
    private static void noSuchDay() {
        DutyLedger ledger = new DutyLedger();
        for (int day : new int[] {-1, 100001, Integer.MIN_VALUE, Integer.MAX_VALUE}) {
            Check.thrown("batch(" + day + ", 0)", Check.ARGUMENT, () -> ledger.batch(day, 0));
            Check.thrown("batch(0, " + day + ")", Check.ARGUMENT, () -> ledger.batch(0, day));
            Check.thrown("batch(" + day + ", " + day + ")", Check.ARGUMENT, () -> ledger.batch(day, day));
        }
        Check.due("count(1)", ledger.count(1), 0);
        Check.due("the next number", ledger.batch(0, 0), 0);
    }

    /** What is closed or was posted is looked at when it is posted, not before. */
    private static void begunThoughItCantBePosted() {
        DutyLedger ledger = Made.withAccounts(0, 1);
        Made.posted(ledger, 0, 20, 0, 1, 5);
        ledger.close(10);
        Check.due("known ahead of what was posted", ledger.batch(0, 19), 1);
        Check.due("known on the closed day", ledger.batch(0, 10), 2);
        Check.due("look(1, 0)", ledger.look(1, 0), 0);
        Check.due("look(2, 0)", ledger.look(2, 0), 0);
    }

    /** "IllegalStateException if there are 100": the 100th is begun and of use, the 101st is not. */
    private static void hundredAtMost() {
        DutyLedger ledger = Made.withAccounts(0, 1);
        Made.fillBatches(ledger, 98);
        Check.thrown("post of no rows", Check.STATE, () -> ledger.post(97));
        Check.due("the 99th batch, a VOID one counted", ledger.batch(1, 1), 98);
        Check.due("the 100th batch", ledger.batch(1, 1), 99);
        Check.thrown("the 101st batch", Check.STATE, () -> ledger.batch(1, 1));
        Check.thrown("the 101st batch, on no day", Check.ARGUMENT, () -> ledger.batch(1, 100001));
        Check.due("count(1)", ledger.count(1), 100);
        Check.yes("row of the 100th", ledger.row(99, 0, 5));
        Check.yes("row of the 100th", ledger.row(99, 1, -5));
        Check.yes("fails of the 100th", ledger.fails(99, true));
        Check.thrown("post of the 100th", Check.FAILED, () -> ledger.post(99));
        Check.due("post of the 100th", ledger.post(99), 1);
        Check.due("read(0, 0)", ledger.read(0, 0), 99);
    }

    /** "At most 100 batches in all (reversals, too)." */
    private static void reversalsToo() {
        DutyLedger ledger = Made.withAccounts(0, 1);
        int posted = Made.posted(ledger, 0, 0, 0, 1, 5);
        Made.fillBatches(ledger, 99);
        Check.due("the 100th batch, a reversal", ledger.reverse(posted, 0), 99);
        Check.thrown("the 101st batch", Check.STATE, () -> ledger.batch(0, 0));
        Check.due("count(1)", ledger.count(1), 100);
    }

    /** "(no batch is made then)": a reversal that can't be posted takes no number. */
    private static void refusedReversalsNot() {
        DutyLedger ledger = Made.withAccounts(0, 1);
        int posted = Made.posted(ledger, 0, 5, 0, 1, 5);
        Made.fillBatches(ledger, 99);
        Check.thrown("reverse ahead of what was posted", Check.STATE, () -> ledger.reverse(posted, 4));
        Check.due("the 100th batch", ledger.batch(0, 0), 99);
    }
}
