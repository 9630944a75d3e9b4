/** VOID batches, WHAT WAS WRONG and who is NAMED. */
public final class VoidTest {
    public static void main(String[] args) {
        nothingWrongYet();
        nothingIsLeft();
        voidForGood();
        theLeastIsTold();
        theLeastOfEachTwo();
        theLatestIsTold();
        whatStaysTold();
        namedAccount();
        namedOfEqualOnes();
        namedBySums();
        namedBeyondAnInt();
        namedOfAllAccounts();
        elseNone();
        Check.finish();
    }

    private static void isVoid(DutyLedger ledger, int batch, int wrong, int named) {
        Check.thrown("post(" + batch + ")", Check.STATE, () -> ledger.post(batch));
        Check.due("what was wrong", ledger.count(5), wrong);
        Check.due("the named account", ledger.count(6), named);
    }

    /** "(0 without)", "(NONE without)". */
    private static void nothingWrongYet() {
        DutyLedger ledger = Made.withAccounts(0, 1);
        Made.posted(ledger, 0, 0, 0, 1, 5);
        Check.due("what was wrong", ledger.count(5), 0);
        Check.due("the named account", ledger.count(6), -1);
    }

    /** "nothing of it is left, but what was wrong": no rows, neither its own nor in the ledger. */
    private static void nothingIsLeft() {
        DutyLedger ledger = Made.withAccounts(0, 1, 2);
        Made.posted(ledger, 0, 8, 0, 1, 5);
        int batch = Made.open(ledger, 3, 9, 0, 2, 70);
        ledger.row(batch, 1, 1);
        isVoid(ledger, batch, 2, 0);
        int[] looks = {2, 0, -1, -1, 0, 3, 9};
        for (int what = 0; what < looks.length; what++) {
            Check.due("look(1, " + what + ")", ledger.look(batch, what), looks[what]);
        }
        int[] counts = {3, 2, 2, -1, 8, 2, 0, 0, 0};
        for (int what = 0; what < counts.length; what++) {
            Check.due("count(" + what + ")", ledger.count(what), counts[what]);
        }
        int[] balances = {5, -5, 0};
        for (int account = 0; account < 3; account++) {
            Check.due("balance", ledger.balance(account, 100000, 100000), balances[account]);
        }
        Check.thrown("read(2, 0)", Check.INDEX, () -> ledger.read(2, 0));
    }

    /** It takes no rows, can't be told to fail, posted or reversed, though what was wrong is mended. */
    private static void voidForGood() {
        DutyLedger ledger = Made.withAccounts(0, 1);
        int batch = ledger.batch(0, 5);
        ledger.row(batch, 0, 5);
        isVoid(ledger, batch, 2, 0);
        Check.no("row", ledger.row(batch, 1, -5));
        Check.no("fails", ledger.fails(batch, true));
        Check.thrown("post", Check.ARGUMENT, () -> ledger.post(batch));
        Check.thrown("reverse", Check.ARGUMENT, () -> ledger.reverse(batch, 5));
        Check.due("look(0, 0)", ledger.look(batch, 0), 2);
        Check.due("count(1): it keeps its number", ledger.count(1), 1);
        Check.due("the next number", ledger.batch(0, 0), 1);
    }

    /** "the least": all that can be wrong at once, then less and less of it. */
    private static void theLeastIsTold() {
        DutyLedger ledger = Made.withAccounts(0, 1);
        Made.fillRows(ledger, 398);
        Made.posted(ledger, 0, 20, 0, 1, 5);
        ledger.close(15);
        isVoid(ledger, ledger.batch(0, 15), 1, -1);
        int uneven = Made.open(ledger, 0, 15, 0, 1, 5);
        ledger.row(uneven, 1, 2);
        isVoid(ledger, uneven, 2, 0);
        isVoid(ledger, Made.open(ledger, 0, 15, 0, 1, 5), 3, -1);
        isVoid(ledger, Made.open(ledger, 0, 19, 0, 1, 5), 4, -1);
        isVoid(ledger, Made.open(ledger, 0, 20, 0, 1, 5), 5, -1);
    }

    /** Two things wrong and no third: the rows of a batch, its known day, and how full the ledger is. */
    private static void theLeastOfEachTwo() {
        leastOf(1, 0, 10, 15, 5, false);
        leastOf(1, 0, 10, 5, 15, false);
        leastOf(2, 1, 10, 15, 5, false);
        leastOf(2, 1, 10, 5, 15, false);
        leastOf(2, 1, 10, -1, -1, true);
        leastOf(3, 2, 10, 15, 20, false);
        leastOf(3, 2, 10, 15, -1, true);
        leastOf(4, 2, 10, 5, 15, true);
    }

    /** A closed and a latest day of -1 are none; a nearly full ledger has room for one row. */
    private static void leastOf(int wrong, int rows, int known, int closed, int latest, boolean nearlyFull) {
        DutyLedger ledger = Made.withAccounts(0, 1);
        if (nearlyFull) {
            Made.fillRows(ledger, 399 - (latest >= 0 ? 2 : 0));
        }
        if (latest >= 0) {
            Made.posted(ledger, 0, latest, 0, 1, 5);
        }
        if (closed >= 0) {
            ledger.close(closed);
        }
        int batch = ledger.batch(0, known);
        for (int i = 0; i < rows; i++) {
            ledger.row(batch, i, i == 0 ? 7 : -7);
        }
        if (nearlyFull && wrong == 2) {
            ledger.row(batch, 1, 1);
        }
        isVoid(ledger, batch, wrong, wrong == 2 ? 0 : -1);
    }

    /** "the latest batch that became VOID", not the one that was begun latest. */
    private static void theLatestIsTold() {
        DutyLedger ledger = Made.withAccounts(0, 1);
        ledger.close(3);
        int closed = Made.open(ledger, 0, 3, 0, 1, 5);
        int uneven = ledger.batch(0, 4);
        ledger.row(uneven, 1, 5);
        int empty = ledger.batch(0, 4);
        isVoid(ledger, empty, 1, -1);
        isVoid(ledger, uneven, 2, 1);
        isVoid(ledger, closed, 3, -1);
    }

    /** Batches that are posted, fail or are no open ones don't change it, nor do reversals that are refused. */
    private static void whatStaysTold() {
        DutyLedger ledger = Made.withAccounts(0, 1);
        int uneven = ledger.batch(0, 0);
        ledger.row(uneven, 1, 5);
        isVoid(ledger, uneven, 2, 1);
        int posted = Made.posted(ledger, 0, 5, 0, 1, 5);
        int failed = Made.open(ledger, 0, 5, 0, 1, 5);
        ledger.fails(failed, true);
        Check.thrown("post", Check.FAILED, () -> ledger.post(failed));
        Check.thrown("post", Check.ARGUMENT, () -> ledger.post(uneven));
        Check.thrown("reverse", Check.STATE, () -> ledger.reverse(posted, 4));
        Check.due("reverse", ledger.reverse(posted, 5), 3);
        Check.due("what was wrong", ledger.count(5), 2);
        Check.due("the named account", ledger.count(6), 1);
    }

    private static void isNamed(int named, long... cents) {
        DutyLedger ledger = Made.withAccounts(0, 1, 2, 3);
        int batch = ledger.batch(0, 0);
        for (int i = 0; i < cents.length; i++) {
            ledger.row(batch, i % 4, cents[i]);
        }
        isVoid(ledger, batch, 2, named);
    }

    /** "that with the greatest sum of cents in the batch, sign left out". */
    private static void namedAccount() {
        isNamed(0, 1);
        isNamed(0, -1);
        isNamed(1, 1, 2, 1, 1);
        isNamed(2, 5, 6, -7, 6);
        isNamed(3, 5, 6, -7, 8);
        isNamed(3, 5, 6, 7, -8);
        isNamed(0, -9, 6, 7, 8);
    }

    /** "of such the least one". */
    private static void namedOfEqualOnes() {
        isNamed(1, 5, -8, 8, 5);
        isNamed(1, 5, 8, -8, 5);
        isNamed(0, 9, 9, 9, 9);
        isNamed(2, 1, 1, -3, -3);
    }

    /** The sum of an account's rows: not its greatest row, nor all of its rows without signs. */
    private static void namedBySums() {
        isNamed(1, 100, 20, 3, 3, -99);
        isNamed(2, 7, 9, 6, 1, 1, 1, 6);
        isNamed(2, 1, 1, 1, 1, 1, 1, 1, 1, 1, 1, 1, 1, 1, 1, 1, 1, 1, 1, 2, 1);
    }

    private static void namedBeyondAnInt() {
        long most = 1000000000;
        isNamed(3, most, 1, 1, most, most, 1, 1, most, most, 1, 1, most, -most, 1, 1, most);
        isNamed(3, most, 1, 1, -most, most, 1, 1, -most, most, 1, 1, -most, -most, 1, 1, -most);
    }

    /** The last of 12 accounts is named as any other, also if it was made behind the batch. */
    private static void namedOfAllAccounts() {
        DutyLedger ledger = Made.withAccounts(0, 1, 2, 3, 4, 5, 0, 1, 2, 3, 4);
        int batch = ledger.batch(0, 0);
        for (int account = 0; account < 11; account++) {
            ledger.row(batch, account, 1);
        }
        Check.due("account", ledger.account(5), 11);
        ledger.row(batch, 11, 2);
        isVoid(ledger, batch, 2, 11);
    }

    /** "else none": whatever else was wrong, the one that was named before is so no more. */
    private static void elseNone() {
        DutyLedger ledger = Made.withAccounts(0, 1);
        Made.fillRows(ledger, 398);
        Made.posted(ledger, 0, 20, 0, 1, 5);
        ledger.close(15);
        int[] known = {-1, 20, -1, 15, 19, 20};
        for (int wrong : new int[] {1, 3, 4, 5}) {
            int uneven = ledger.batch(0, 20);
            ledger.row(uneven, 1, 5);
            isVoid(ledger, uneven, 2, 1);
            int batch = ledger.batch(0, known[wrong]);
            if (wrong != 1) {
                ledger.row(batch, 0, 5);
                ledger.row(batch, 1, -5);
            }
            isVoid(ledger, batch, wrong, -1);
        }
    }
}
