import java.util.List;

/** Promise 7: reverse. */
public final class ReverseTest {
    public static void main(String[] args) {
        reversed();
        twentyRows();
        nonePostedYet();
        noSuchBatch();
        notPosted();
        noSuchDay();
        firstAndLastDay();
        atMostOnce();
        noneThatIsAReversal();
        hundredBatches();
        dayClosed();
        aheadOfPosted();
        noRoom();
        refusedOnesCanBeReversedLater();
        validOnAClosedDay();
        Check.finish();
    }

    /** "a batch with its rows turned in sign, of the same VALID day, KNOWN on a day that is told". */
    private static void reversed() {
        DutyLedger ledger = Made.withAccounts(0, 1, 2);
        int batch = ledger.batch(40, 20);
        ledger.row(batch, 2, 9);
        ledger.row(batch, 0, -1000000000);
        ledger.row(batch, 1, 999999991);
        ledger.post(batch);
        Check.due("reverse(0, 25)", ledger.reverse(batch, 25), 1);
        int[][] looks = {{1, 3, -1, 1, 0, 40, 20}, {1, 3, 0, -1, 0, 40, 25}};
        for (int number = 0; number < 2; number++) {
            for (int what = 0; what <= 6; what++) {
                Check.due("look(" + number + ", " + what + ")", ledger.look(number, what), looks[number][what]);
            }
        }
        long[][] rows = {
            {0, 2, 9, 40, 20}, {0, 0, -1000000000, 40, 20}, {0, 1, 999999991, 40, 20},
            {1, 2, -9, 40, 25}, {1, 0, 1000000000, 40, 25}, {1, 1, -999999991, 40, 25}};
        for (int i = 0; i < rows.length; i++) {
            for (int what = 0; what <= 4; what++) {
                Check.due("read(" + i + ", " + what + ")", ledger.read(i, what), rows[i][what]);
            }
        }
        Check.yes("counts", Made.counts(ledger).equals(List.of(3L, 2L, 6L, -1L, 25L, 0L, -1L, 0L, 0L)));
        Check.due("balance as known before", ledger.balance(2, 40, 24), 9);
        Check.due("balance as known then", ledger.balance(2, 40, 25), 0);
    }

    private static void twentyRows() {
        DutyLedger ledger = Made.withAccounts(0, 1);
        int batch = Made.postedRows(ledger, 20);
        Check.due("reverse", ledger.reverse(batch, 0), 1);
        Check.due("count(2)", ledger.count(2), 40);
        for (int i = 0; i < 20; i++) {
            Check.due("cents", ledger.read(20 + i, 2), -ledger.read(i, 2));
            Check.due("account", ledger.read(20 + i, 1), ledger.read(i, 1));
        }
    }

    /** What is refused makes no batch, and leaves all counts and the batch as they were. */
    private static void refused(DutyLedger ledger, int batch, int known, Class<? extends RuntimeException> due) {
        List<Long> before = Made.counts(ledger);
        Check.thrown("reverse(" + batch + ", " + known + ")", due, () -> ledger.reverse(batch, known));
        Check.yes("nothing is changed", before.equals(Made.counts(ledger)));
    }

    private static void notReversed(DutyLedger ledger, int batch) {
        Check.due("look(" + batch + ", 0)", ledger.look(batch, 0), 1);
        Check.due("look(" + batch + ", 2)", ledger.look(batch, 2), -1);
        Check.due("look(" + batch + ", 3)", ledger.look(batch, 3), -1);
    }

    private static void nonePostedYet() {
        DutyLedger ledger = Made.withAccounts(0, 1);
        refused(ledger, 0, 0, Check.ARGUMENT);
        Made.open(ledger, 0, 0, 0, 1, 5);
        refused(ledger, 0, 0, Check.ARGUMENT);
    }

    /** "IllegalArgumentException if there is no such batch": the last one there is and the first there isn't. */
    private static void noSuchBatch() {
        DutyLedger ledger = Made.withAccounts(0, 1);
        Made.posted(ledger, 0, 0, 0, 1, 5);
        int last = Made.posted(ledger, 0, 0, 0, 1, 5);
        for (int batch : new int[] {-1, 2, 100, Integer.MIN_VALUE, Integer.MAX_VALUE}) {
            refused(ledger, batch, 0, Check.ARGUMENT);
        }
        Check.due("reverse(1, 0)", ledger.reverse(last, 0), 2);
    }

    /** "that is posted": not an open or a VOID one, nor one that failed. */
    private static void notPosted() {
        DutyLedger ledger = Made.withAccounts(0, 1);
        int open = Made.open(ledger, 0, 0, 0, 1, 5);
        int empty = Made.emptyVoid(ledger);
        int failed = Made.open(ledger, 0, 0, 0, 1, 5);
        ledger.fails(failed, true);
        Check.thrown("post", Check.FAILED, () -> ledger.post(failed));
        for (int batch : new int[] {open, empty, failed}) {
            refused(ledger, batch, 5, Check.ARGUMENT);
        }
    }

    /** "or no such day". */
    private static void noSuchDay() {
        DutyLedger ledger = Made.withAccounts(0, 1);
        Made.posted(ledger, 0, 0, 0, 1, 5);
        for (int day : new int[] {-1, 100001, Integer.MIN_VALUE, Integer.MAX_VALUE}) {
            refused(ledger, 0, day, Check.ARGUMENT);
        }
        notReversed(ledger, 0);
    }

    private static void firstAndLastDay() {
        DutyLedger ledger = Made.withAccounts(0, 1);
        Made.posted(ledger, 0, 0, 0, 1, 5);
        Made.posted(ledger, 100000, 0, 0, 1, 5);
        Check.due("reverse(0, 0)", ledger.reverse(0, 0), 2);
        Check.due("reverse(1, 100000)", ledger.reverse(1, 100000), 3);
        Check.due("look(2, 6)", ledger.look(2, 6), 0);
        Check.due("look(3, 5)", ledger.look(3, 5), 100000);
        Check.due("look(3, 6)", ledger.look(3, 6), 100000);
    }

    /** "a batch is reversed at most once". */
    private static void atMostOnce() {
        DutyLedger ledger = Made.withAccounts(0, 1);
        Made.posted(ledger, 0, 0, 0, 1, 5);
        Made.posted(ledger, 0, 0, 0, 1, 6);
        Check.due("reverse(1, 0)", ledger.reverse(1, 0), 2);
        refused(ledger, 1, 0, Check.STATE);
        refused(ledger, 1, 100000, Check.STATE);
        Check.due("look(1, 3)", ledger.look(1, 3), 2);
        Check.due("another one: reverse(0, 0)", ledger.reverse(0, 0), 3);
        refused(ledger, 0, 0, Check.STATE);
    }

    /** "and none that is a reversal": also the one that reverses batch 0. */
    private static void noneThatIsAReversal() {
        DutyLedger ledger = Made.withAccounts(0, 1);
        Made.posted(ledger, 0, 0, 0, 1, 5);
        Made.posted(ledger, 0, 0, 0, 1, 6);
        int ofFirst = ledger.reverse(0, 0);
        int ofSecond = ledger.reverse(1, 0);
        refused(ledger, ofFirst, 7, Check.STATE);
        refused(ledger, ofSecond, 7, Check.STATE);
        Check.due("look(2, 3)", ledger.look(ofFirst, 3), -1);
        Check.due("look(3, 3)", ledger.look(ofSecond, 3), -1);
    }

    /** "there are 100 batches": the 100th is made, the 101st is not. */
    private static void hundredBatches() {
        DutyLedger ledger = Made.withAccounts(0, 1);
        Made.posted(ledger, 0, 0, 0, 1, 5);
        Made.posted(ledger, 0, 0, 0, 1, 5);
        Made.fillBatches(ledger, 99);
        Check.due("the 100th batch", ledger.reverse(0, 0), 99);
        refused(ledger, 1, 0, Check.STATE);
        notReversed(ledger, 1);
        Check.due("look(99, 2)", ledger.look(99, 2), 0);
    }

    /** "it can't be posted": it must be known behind the closed day. */
    private static void dayClosed() {
        DutyLedger ledger = Made.withAccounts(0, 1);
        int batch = Made.posted(ledger, 0, 20, 0, 1, 5);
        ledger.close(30);
        refused(ledger, batch, 29, Check.STATE);
        refused(ledger, batch, 30, Check.STATE);
        notReversed(ledger, batch);
        Check.due("reverse behind the closed day", ledger.reverse(batch, 31), 1);
        DutyLedger first = Made.withAccounts(0, 1);
        Made.posted(first, 0, 0, 0, 1, 5);
        first.close(0);
        refused(first, 0, 0, Check.STATE);
        Check.due("reverse(0, 1)", first.reverse(0, 1), 1);
        DutyLedger last = Made.withAccounts(0, 1);
        Made.posted(last, 0, 0, 0, 1, 5);
        last.close(100000);
        refused(last, 0, 100000, Check.STATE);
    }

    /** It must not be known ahead of the latest batch that was posted, a reversal or not. */
    private static void aheadOfPosted() {
        DutyLedger ledger = Made.withAccounts(0, 1);
        Made.posted(ledger, 0, 10, 0, 1, 5);
        Made.posted(ledger, 0, 20, 0, 1, 5);
        refused(ledger, 0, 10, Check.STATE);
        refused(ledger, 0, 19, Check.STATE);
        Check.due("reverse(0, 20)", ledger.reverse(0, 20), 2);
        Made.posted(ledger, 0, 22, 0, 1, 5);
        Check.due("reverse(3, 25)", ledger.reverse(3, 25), 4);
        refused(ledger, 1, 24, Check.STATE);
        Check.due("reverse(1, 25)", ledger.reverse(1, 25), 5);
    }

    /** Its rows must have room: 380 and 20 have, 381 and 20 have not. */
    private static void noRoom() {
        DutyLedger fits = Made.withAccounts(0, 1);
        Made.fillRows(fits, 380);
        Check.due("reverse into the last rows", fits.reverse(18, 0), 19);
        Check.due("count(2)", fits.count(2), 400);
        Check.due("read(399, 0)", fits.read(399, 0), 19);
        Check.due("read(399, 2)", fits.read(399, 2), 1);
        DutyLedger fuller = Made.withAccounts(0, 1);
        int batch = Made.postedRows(fuller, 20);
        Made.fillRows(fuller, 358);
        Made.postedRows(fuller, 3);
        Check.due("count(2)", fuller.count(2), 381);
        refused(fuller, batch, 0, Check.STATE);
        notReversed(fuller, batch);
        Check.thrown("read(381, 0)", Check.INDEX, () -> fuller.read(381, 0));
    }

    private static void refusedOnesCanBeReversedLater() {
        DutyLedger ledger = Made.withAccounts(0, 1);
        int batch = Made.posted(ledger, 0, 20, 0, 1, 5);
        refused(ledger, batch, 19, Check.STATE);
        refused(ledger, batch, 100001, Check.ARGUMENT);
        notReversed(ledger, batch);
        Check.due("reverse(0, 20)", ledger.reverse(batch, 20), 1);
        Check.due("look(0, 3)", ledger.look(batch, 3), 1);
    }

    /** The same VALID day, whatever is closed: only the KNOWN day must be behind it. */
    private static void validOnAClosedDay() {
        DutyLedger ledger = Made.withAccounts(0, 1);
        int batch = Made.posted(ledger, 3, 4, 0, 1, 5);
        ledger.close(10);
        Check.due("reverse(0, 11)", ledger.reverse(batch, 11), 1);
        Check.due("look(1, 5)", ledger.look(1, 5), 3);
        Check.due("balance for the valid day", ledger.balance(0, 3, 11), 0);
    }
}
