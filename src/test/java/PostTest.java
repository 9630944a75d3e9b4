/** Promise 6: post, with FAIL, HELD, VOID, WHAT WAS WRONG and NAMED. */
public final class PostTest {
    public static void main(String[] args) {
        posted();
        noSuchOpenBatch();
        noRows();
        sumNotZero();
        namedAccount();
        namedIsForgotten();
        dayClosed();
        aheadOfPosted();
        noRoom();
        theLeastIsTold();
        failed();
        voidBeforeFailed();
        failedInAFullLedger();
        Check.finish();
    }

    private static void posted() {
        DutyLedger ledger = Made.withAccounts(0, 1, 2);
        int late = Made.open(ledger, 4, 9, 2, 1, 30);
        int first = ledger.batch(7, 9);
        ledger.row(first, 0, 10);
        ledger.row(first, 1, -4);
        ledger.row(first, 0, -6);
        Check.due("post", ledger.post(first), 1);
        Check.due("look(1, 0)", ledger.look(first, 0), 1);
        Check.due("look(1, 1)", ledger.look(first, 1), 3);
        Check.due("post", ledger.post(late), 1);
        long[][] due = {{1, 0, 10, 7, 9}, {1, 1, -4, 7, 9}, {1, 0, -6, 7, 9}, {0, 2, 30, 4, 9}, {0, 1, -30, 4, 9}};
        Check.due("count(2)", ledger.count(2), due.length);
        for (int i = 0; i < due.length; i++) {
            for (int what = 0; what <= 4; what++) {
                Check.due("read(" + i + ", " + what + ")", ledger.read(i, what), due[i][what]);
            }
        }
        Check.due("count(4)", ledger.count(4), 9);
        Check.due("count(5)", ledger.count(5), 0);
        Check.due("count(7)", ledger.count(7), 0);
    }

    private static void noSuchOpenBatch() {
        DutyLedger ledger = Made.withAccounts(0, 1);
        int posted = Made.posted(ledger, 0, 0, 0, 1, 5);
        int reversal = ledger.reverse(posted, 0);
        int empty = ledger.batch(0, 0);
        Check.thrown("post of no rows", Check.STATE, () -> ledger.post(empty));
        for (int batch : new int[] {posted, reversal, empty, -1, 3, 100, Integer.MIN_VALUE, Integer.MAX_VALUE}) {
            Check.thrown("post(" + batch + ")", Check.ARGUMENT, () -> ledger.post(batch));
        }
        Check.due("count(2)", ledger.count(2), 4);
    }

    private static void isVoid(DutyLedger ledger, int batch, int wrong, int named) {
        int rows = ledger.count(2);
        int latest = ledger.count(4);
        Check.thrown("post(" + batch + ")", Check.STATE, () -> ledger.post(batch));
        Check.due("what was wrong", ledger.count(5), wrong);
        Check.due("the named account", ledger.count(6), named);
        Check.due("state", ledger.look(batch, 0), 2);
        Check.due("rows of a void batch", ledger.look(batch, 1), 0);
        Check.due("rows of the ledger", ledger.count(2), rows);
        Check.due("latest known day", ledger.count(4), latest);
        Check.due("failures", ledger.count(8), 0);
    }

    private static void noRows() {
        DutyLedger ledger = Made.withAccounts(0, 1);
        isVoid(ledger, ledger.batch(3, 4), 1, -1);
        Check.due("valid day of a void batch", ledger.look(0, 5), 3);
        Check.due("known day of a void batch", ledger.look(0, 6), 4);
    }

    private static void sumNotZero() {
        DutyLedger ledger = Made.withAccounts(0, 1);
        int batch = Made.open(ledger, 0, 0, 0, 1, 1000000000);
        ledger.row(batch, 1, -1);
        isVoid(ledger, batch, 2, 1);
        // Sums beyond an int that would wrap around to 0.
        int wide = ledger.batch(0, 0);
        for (int i = 0; i < 4; i++) {
            ledger.row(wide, 0, 1000000000);
        }
        ledger.row(wide, 0, 294967296);
        isVoid(ledger, wide, 2, 0);
    }

    private static void isNamed(int named, long... cents) {
        DutyLedger ledger = Made.withAccounts(0, 1, 2, 3);
        int batch = ledger.batch(0, 0);
        for (int i = 0; i < cents.length; i++) {
            ledger.row(batch, i % 4, cents[i]);
        }
        isVoid(ledger, batch, 2, named);
    }

    private static void namedAccount() {
        isNamed(0, 1);
        isNamed(0, -1);
        isNamed(1, 1, 2, 1, 1);
        isNamed(2, 5, 6, -7, 6);
        isNamed(3, 5, 6, -7, 8);
        isNamed(1, 5, -8, 8, 5);
        isNamed(1, 5, 8, -8, 5);
        isNamed(0, 9, 9, 9, 9);
        // The sum of an account's rows, not its greatest row, nor all of its rows without signs.
        isNamed(1, 100, 20, 3, 3, -99);
        isNamed(2, 7, 9, 6, 1, 1, 1, 6);
        isNamed(3, 1000000000, 1, 1, 1000000000, 1000000000, 1, 1, 1000000000, 1000000000, 1, 1, 1000000000,
                -1000000000, 1, 1, 1000000000);
        // As many rows as a batch takes.
        isNamed(2, 1, 1, 1, 1, 1, 1, 1, 1, 1, 1, 1, 1, 1, 1, 1, 1, 1, 1, 2, 1);
    }

    private static void namedIsForgotten() {
        DutyLedger ledger = Made.withAccounts(0, 1);
        int batch = ledger.batch(0, 0);
        ledger.row(batch, 1, 3);
        isVoid(ledger, batch, 2, 1);
        Made.posted(ledger, 0, 0, 0, 1, 5);
        Check.due("what was wrong stays behind a batch that is posted", ledger.count(5), 2);
        Check.due("the named account too", ledger.count(6), 1);
        isVoid(ledger, ledger.batch(0, 0), 1, -1);
    }

    private static void dayClosed() {
        DutyLedger ledger = Made.withAccounts(0, 1);
        ledger.close(10);
        isVoid(ledger, Made.open(ledger, 50, 10, 0, 1, 5), 3, -1);
        isVoid(ledger, Made.open(ledger, 50, 9, 0, 1, 5), 3, -1);
        int batch = Made.open(ledger, 3, 11, 0, 1, 5);
        Check.due("behind the closed day, valid on one ahead", ledger.post(batch), 1);
        DutyLedger other = Made.withAccounts(0, 1);
        Check.due("day 0 while none is closed", other.post(Made.open(other, 0, 0, 0, 1, 5)), 1);
    }

    private static void aheadOfPosted() {
        DutyLedger ledger = Made.withAccounts(0, 1);
        Made.posted(ledger, 90, 20, 0, 1, 5);
        Made.posted(ledger, 90, 20, 0, 1, 5);
        isVoid(ledger, Made.open(ledger, 95, 19, 0, 1, 5), 4, -1);
        Made.posted(ledger, 1, 21, 0, 1, 5);
        isVoid(ledger, Made.open(ledger, 95, 20, 0, 1, 5), 4, -1);
        ledger.reverse(0, 30);
        isVoid(ledger, Made.open(ledger, 95, 29, 0, 1, 5), 4, -1);
        Made.posted(ledger, 1, 30, 0, 1, 5);
    }

    private static void noRoom() {
        DutyLedger ledger = Made.withAccounts(0, 1);
        Made.fillRows(ledger, 397);
        int four = Made.open(ledger, 0, 0, 0, 1, 5);
        ledger.row(four, 0, 5);
        ledger.row(four, 1, -5);
        isVoid(ledger, four, 5, -1);
        int three = Made.open(ledger, 0, 0, 0, 1, 5);
        ledger.row(three, 0, 5);
        ledger.row(three, 1, -3);
        isVoid(ledger, three, 2, 0);
        int last = ledger.batch(0, 0);
        ledger.row(last, 0, 5);
        ledger.row(last, 1, -3);
        ledger.row(last, 1, -2);
        Check.due("the last three rows", ledger.post(last), 1);
        Check.due("count(2)", ledger.count(2), 400);
        isVoid(ledger, Made.open(ledger, 0, 0, 0, 1, 5), 5, -1);
        Check.due("read(399, 2)", ledger.read(399, 2), -2);
    }

    private static void theLeastIsTold() {
        DutyLedger ledger = Made.withAccounts(0, 1);
        Made.fillRows(ledger, 398);
        Made.posted(ledger, 0, 20, 0, 1, 5);
        int room = Made.open(ledger, 0, 20, 0, 1, 5);
        int ahead = Made.open(ledger, 0, 19, 0, 1, 5);
        int closed = Made.open(ledger, 0, 15, 0, 1, 5);
        int uneven = Made.open(ledger, 0, 15, 0, 1, 5);
        ledger.row(uneven, 1, 2);
        int empty = ledger.batch(0, 15);
        ledger.close(15);
        isVoid(ledger, room, 5, -1);
        isVoid(ledger, ahead, 4, -1);
        isVoid(ledger, closed, 3, -1);
        isVoid(ledger, uneven, 2, 0);
        isVoid(ledger, empty, 1, -1);
    }

    private static void failed() {
        DutyLedger ledger = Made.withAccounts(0, 1);
        Made.posted(ledger, 0, 3, 0, 1, 5);
        int batch = ledger.batch(2, 8);
        ledger.row(batch, 0, 7);
        ledger.row(batch, 1, -3);
        ledger.row(batch, 1, -4);
        ledger.fails(batch, true);
        Check.thrown("post", Check.FAILED, () -> ledger.post(batch));
        int[] counts = {2, 2, 2, -1, 3, 0, -1, 0, 1};
        for (int what = 0; what < counts.length; what++) {
            Check.due("count(" + what + ") behind a failure", ledger.count(what), counts[what]);
        }
        int[] looks = {0, 3, -1, -1, 0, 2, 8};
        for (int what = 0; what < looks.length; what++) {
            Check.due("look(1, " + what + ") behind a failure", ledger.look(batch, what), looks[what]);
        }
        Check.thrown("read(2, 0)", Check.INDEX, () -> ledger.read(2, 0));
        Check.due("balance", ledger.balance(0, 100000, 100000), 5);
        Check.yes("row of a batch that failed", ledger.row(batch, 0, 1));
        Check.yes("row of a batch that failed", ledger.row(batch, 1, -1));
        Check.yes("fails", ledger.fails(batch, true));
        Check.thrown("post", Check.FAILED, () -> ledger.post(batch));
        Check.due("count(8)", ledger.count(8), 2);
        Check.due("post of a batch told to fail no more", ledger.post(batch), 1);
        Check.due("count(2)", ledger.count(2), 7);
        Check.due("balance", ledger.balance(0, 100000, 100000), 13);
        Check.due("read(2, 0)", ledger.read(2, 0), 1);
        Check.due("read(6, 2)", ledger.read(6, 2), -1);
        Check.due("count(8)", ledger.count(8), 2);
        Check.due("count(7)", ledger.count(7), 0);
    }

    /** The exception that is told first is thrown: a batch that can't be posted does not come to fail. */
    private static void voidBeforeFailed() {
        DutyLedger ledger = Made.withAccounts(0, 1);
        int empty = ledger.batch(0, 0);
        ledger.fails(empty, true);
        isVoid(ledger, empty, 1, -1);
        ledger.close(4);
        int closed = Made.open(ledger, 0, 4, 0, 1, 5);
        ledger.fails(closed, true);
        isVoid(ledger, closed, 3, -1);
    }

    private static void failedInAFullLedger() {
        DutyLedger ledger = Made.withAccounts(0, 1);
        Made.fillRows(ledger, 399);
        int batch = Made.open(ledger, 0, 0, 0, 1, 5);
        ledger.fails(batch, true);
        isVoid(ledger, batch, 5, -1);
        DutyLedger other = Made.withAccounts(0, 1);
        Made.fillRows(other, 398);
        int fits = Made.open(other, 0, 0, 0, 1, 5);
        other.fails(fits, true);
        Check.thrown("post", Check.FAILED, () -> other.post(fits));
        Check.due("count(2)", other.count(2), 398);
        Check.due("post", other.post(fits), 1);
        Check.due("count(2)", other.count(2), 400);
    }
}
