/** Promise 6: post, and what a batch needs to be posted. VoidTest has what is told of one that can't be. */
public final class PostTest {
    public static void main(String[] args) {
        oneBehindTheOther();
        noBatchYet();
        noSuchBatch();
        openOnesAlone();
        mustHaveRows();
        mustSumToZero();
        sumsBeyondAnInt();
        noneClosedAtFirst();
        behindTheClosedDay();
        behindTheFirstDay();
        behindTheLastDay();
        nonePostedAtFirst();
        notAheadOfTheLatest();
        aReversalIsTheLatestToo();
        whatWasNotPostedIsNotTheLatest();
        roomForTheLastRows();
        roomForAWholeBatch();
        noRoomAtAll();
        Check.finish();
    }

    /** "Then its rows are in the ledger, one behind the other", in the order of posting. */
    private static void oneBehindTheOther() {
        DutyLedger ledger = Made.withAccounts(0, 1, 2);
        int late = Made.open(ledger, 4, 9, 2, 1, 30);
        int first = ledger.batch(7, 9);
        ledger.row(first, 0, 10);
        ledger.row(first, 1, -4);
        ledger.row(first, 0, -6);
        Check.due("post", ledger.post(first), 1);
        Check.due("look(1, 0)", ledger.look(first, 0), 1);
        Check.due("look(1, 1)", ledger.look(first, 1), 3);
        Check.due("post", ledger.post(late), 1);
        long[][] due = {{1, 0, 10, 7, 9}, {1, 1, -4, 7, 9}, {1, 0, -6, 7, 9}, {0, 2, 30, 4, 9}, {0, 1, -30, 4, 9}};
        Check.due("count(2)", ledger.count(2), due.length);
        for (int i = 0; i < due.length; i++) {
            for (int what = 0; what <= 4; what++) {
                Check.due("read(" + i + ", " + what + ")", ledger.read(i, what), due[i][what]);
            }
        }
        int[] counts = {3, 2, 5, -1, 9, 0, -1, 0, 0};
        for (int what = 0; what < counts.length; what++) {
            Check.due("count(" + what + ")", ledger.count(what), counts[what]);
        }
    }

    private static void noBatchYet() {
        DutyLedger ledger = Made.withAccounts(0, 1);
        Check.thrown("post(0)", Check.ARGUMENT, () -> ledger.post(0));
        Check.due("what was wrong", ledger.count(5), 0);
    }

    /** "IllegalArgumentException if there is no such batch": the last one there is and the first there isn't. */
    private static void noSuchBatch() {
        DutyLedger ledger = Made.withAccounts(0, 1);
        Made.fillBatches(ledger, 98);
        int last = Made.open(ledger, 0, 0, 0, 1, 5);
        for (int batch : new int[] {-1, 99, 100, Integer.MIN_VALUE, Integer.MAX_VALUE}) {
            Check.thrown("post(" + batch + ")", Check.ARGUMENT, () -> ledger.post(batch));
        }
        Check.due("post(98)", ledger.post(last), 1);
        Check.due("post(99)", ledger.post(Made.open(ledger, 0, 0, 0, 1, 5)), 1);
        Check.thrown("post(100)", Check.ARGUMENT, () -> ledger.post(100));
        Check.due("what was wrong", ledger.count(5), 0);
    }

    /** "that is OPEN": not a posted, a VOID one, or a reversal. */
    private static void openOnesAlone() {
        DutyLedger ledger = Made.withAccounts(0, 1);
        int posted = Made.posted(ledger, 0, 0, 0, 1, 5);
        int reversal = ledger.reverse(posted, 0);
        int empty = Made.emptyVoid(ledger);
        for (int batch : new int[] {posted, reversal, empty}) {
            Check.thrown("post(" + batch + ")", Check.ARGUMENT, () -> ledger.post(batch));
        }
        Check.due("count(2)", ledger.count(2), 4);
    }

    private static void isVoid(DutyLedger ledger, int batch, int wrong) {
        Check.thrown("post(" + batch + ")", Check.STATE, () -> ledger.post(batch));
        Check.due("look(" + batch + ", 0)", ledger.look(batch, 0), 2);
        Check.due("what was wrong", ledger.count(5), wrong);
    }

    private static void isPosted(DutyLedger ledger, int batch) {
        Check.due("post(" + batch + ")", ledger.post(batch), 1);
        Check.due("look(" + batch + ", 0)", ledger.look(batch, 0), 1);
    }

    /** "it must have rows": none is too few; one can't sum to 0; two do. */
    private static void mustHaveRows() {
        DutyLedger ledger = Made.withAccounts(0, 1);
        isVoid(ledger, ledger.batch(0, 0), 1);
        int one = ledger.batch(0, 0);
        ledger.row(one, 0, 1);
        isVoid(ledger, one, 2);
        isPosted(ledger, Made.open(ledger, 0, 0, 0, 1, 1));
        isPosted(ledger, Made.openRows(ledger, 0, 20));
    }

    /** "its cents must sum to 0": not 1, nor -1. */
    private static void mustSumToZero() {
        for (int off = -1; off <= 1; off++) {
            DutyLedger ledger = Made.withAccounts(0, 1);
            int batch = Made.open(ledger, 0, 0, 0, 1, 1000000000);
            ledger.row(batch, 1, 10 + off);
            ledger.row(batch, 1, -10);
            if (off == 0) {
                isPosted(ledger, batch);
            } else {
                isVoid(ledger, batch, 2);
            }
        }
        DutyLedger alone = Made.withAccounts(0);
        isPosted(alone, Made.open(alone, 0, 0, 0, 0, 5));
    }

    /** Sums that are 0 only if they wrap around, and the widest ones that are 0. */
    private static void sumsBeyondAnInt() {
        DutyLedger ledger = Made.withAccounts(0, 1);
        int wraps = ledger.batch(0, 0);
        for (int i = 0; i < 4; i++) {
            ledger.row(wraps, 0, 1000000000);
        }
        ledger.row(wraps, 0, 294967296);
        isVoid(ledger, wraps, 2);
        int wide = ledger.batch(0, 0);
        for (int i = 0; i < 20; i++) {
            ledger.row(wide, i < 10 ? 0 : 1, i < 10 ? 1000000000 : -1000000000);
        }
        isPosted(ledger, wide);
        Check.due("balance", ledger.balance(0, 0, 0), 10000000000L);
    }

    /** "(at first none is: NONE)": then day 0 is behind it. */
    private static void noneClosedAtFirst() {
        DutyLedger ledger = Made.withAccounts(0, 1);
        Check.due("count(3)", ledger.count(3), -1);
        isPosted(ledger, Made.open(ledger, 0, 0, 0, 1, 5));
    }

    /** "its KNOWN day must be behind the CLOSED one": its VALID day need not. */
    private static void behindTheClosedDay() {
        DutyLedger ledger = Made.withAccounts(0, 1);
        ledger.close(10);
        isVoid(ledger, Made.open(ledger, 50, 9, 0, 1, 5), 3);
        isVoid(ledger, Made.open(ledger, 50, 10, 0, 1, 5), 3);
        isPosted(ledger, Made.open(ledger, 3, 11, 0, 1, 5));
        int open = Made.open(ledger, 50, 11, 0, 1, 5);
        ledger.close(11);
        isVoid(ledger, open, 3);
    }

    private static void behindTheFirstDay() {
        DutyLedger ledger = Made.withAccounts(0, 1);
        ledger.close(0);
        isVoid(ledger, Made.open(ledger, 0, 0, 0, 1, 5), 3);
        isPosted(ledger, Made.open(ledger, 0, 1, 0, 1, 5));
    }

    private static void behindTheLastDay() {
        DutyLedger ledger = Made.withAccounts(0, 1);
        ledger.close(99999);
        isPosted(ledger, Made.open(ledger, 0, 100000, 0, 1, 5));
        ledger.close(100000);
        isVoid(ledger, Made.open(ledger, 0, 100000, 0, 1, 5), 3);
    }

    private static void nonePostedAtFirst() {
        for (int day : new int[] {0, 1, 100000}) {
            DutyLedger ledger = Made.withAccounts(0, 1);
            Check.due("count(4)", ledger.count(4), -1);
            isPosted(ledger, Made.open(ledger, 0, day, 0, 1, 5));
            Check.due("count(4)", ledger.count(4), day);
        }
    }

    /** "not ahead of that of the latest batch that was posted": the same day is none ahead. */
    private static void notAheadOfTheLatest() {
        DutyLedger ledger = Made.withAccounts(0, 1);
        isPosted(ledger, Made.open(ledger, 90, 20, 0, 1, 5));
        isVoid(ledger, Made.open(ledger, 95, 19, 0, 1, 5), 4);
        isPosted(ledger, Made.open(ledger, 80, 20, 0, 1, 5));
        isPosted(ledger, Made.open(ledger, 1, 21, 0, 1, 5));
        isVoid(ledger, Made.open(ledger, 95, 20, 0, 1, 5), 4);
        isVoid(ledger, Made.open(ledger, 95, 0, 0, 1, 5), 4);
        isPosted(ledger, Made.open(ledger, 95, 21, 0, 1, 5));
    }

    private static void aReversalIsTheLatestToo() {
        DutyLedger ledger = Made.withAccounts(0, 1);
        Made.posted(ledger, 90, 20, 0, 1, 5);
        ledger.reverse(0, 30);
        isVoid(ledger, Made.open(ledger, 95, 29, 0, 1, 5), 4);
        isPosted(ledger, Made.open(ledger, 95, 30, 0, 1, 5));
    }

    /** A batch that is VOID, failed, was begun or was refused as a reversal is none that was posted. */
    private static void whatWasNotPostedIsNotTheLatest() {
        DutyLedger ledger = Made.withAccounts(0, 1);
        Made.posted(ledger, 0, 20, 0, 1, 5);
        int failed = Made.open(ledger, 0, 60, 0, 1, 5);
        ledger.fails(failed, true);
        Check.thrown("post", Check.FAILED, () -> ledger.post(failed));
        isVoid(ledger, ledger.batch(0, 70), 1);
        ledger.batch(0, 80);
        Check.thrown("reverse", Check.STATE, () -> ledger.reverse(0, 19));
        Check.due("count(4)", ledger.count(4), 20);
        isPosted(ledger, Made.open(ledger, 0, 20, 0, 1, 5));
    }

    /** "all of its rows must have room in the ledger (400 rows at most)": 397 and 3 have, 397 and 4 have not. */
    private static void roomForTheLastRows() {
        DutyLedger ledger = Made.withAccounts(0, 1);
        Made.fillRows(ledger, 397);
        isVoid(ledger, Made.openRows(ledger, 0, 4), 5);
        Check.due("count(2)", ledger.count(2), 397);
        isPosted(ledger, Made.openRows(ledger, 0, 3));
        Check.due("count(2)", ledger.count(2), 400);
        Check.due("read(399, 2)", ledger.read(399, 2), -2);
    }

    /** The largest batch: 380 and 20 rows have room, 381 and 20 have not. */
    private static void roomForAWholeBatch() {
        DutyLedger ledger = Made.withAccounts(0, 1);
        Made.fillRows(ledger, 380);
        isPosted(ledger, Made.openRows(ledger, 0, 20));
        Check.due("count(2)", ledger.count(2), 400);
        DutyLedger fuller = Made.withAccounts(0, 1);
        Made.fillRows(fuller, 378);
        Made.postedRows(fuller, 3);
        isVoid(fuller, Made.openRows(fuller, 0, 20), 5);
        Check.due("count(2)", fuller.count(2), 381);
        isPosted(fuller, Made.openRows(fuller, 0, 19));
        Check.due("count(2)", fuller.count(2), 400);
    }

    private static void noRoomAtAll() {
        DutyLedger ledger = Made.withAccounts(0, 1);
        Made.fillRows(ledger, 400);
        isVoid(ledger, Made.open(ledger, 0, 0, 0, 1, 5), 5);
        Check.due("count(2)", ledger.count(2), 400);
        Check.due("balance", ledger.balance(0, 100000, 100000), 0);
    }
}
