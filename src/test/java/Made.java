import java.util.ArrayList;
import java.util.List;

/** Ledgers and batches as the tests need them. */
final class Made {
    private Made() {
    }

    static DutyLedger withAccounts(int... kinds) {
        DutyLedger ledger = new DutyLedger();
        for (int kind : kinds) {
            ledger.account(kind);
        }
        return ledger;
    }

    /** A batch that moves cents from one account to another, open yet. */
    static int open(DutyLedger ledger, int valid, int known, int to, int from, long cents) {
        int batch = ledger.batch(valid, known);
        Check.yes("row to", ledger.row(batch, to, cents));
        Check.yes("row from", ledger.row(batch, from, -cents));
        return batch;
    }

    static int posted(DutyLedger ledger, int valid, int known, int to, int from, long cents) {
        int batch = open(ledger, valid, known, to, from, cents);
        Check.due("post", ledger.post(batch), 1);
        return batch;
    }

    /**
     * Fills a ledger without rows, all known on day 0. Batches of 20 rows are reversed, since few calls must make
     * many rows: an object has 512 calls. What is left over for the last batch must not be one row.
     */
    static void fillRows(DutyLedger ledger, int rows) {
        int missing = rows;
        while (missing >= 40) {
            ledger.reverse(postedRows(ledger, 20), 0);
            missing -= 40;
        }
        while (missing > 0) {
            int more = Math.min(20, missing);
            postedRows(ledger, more);
            missing -= more;
        }
    }

    static int postedRows(DutyLedger ledger, int rows) {
        int batch = openRows(ledger, 0, rows);
        Check.due("post", ledger.post(batch), 1);
        return batch;
    }

    /** A batch of that many rows (2 or more) that sum to 0, on accounts 0 and 1 by turns, open yet. */
    static int openRows(DutyLedger ledger, int known, int rows) {
        int batch = ledger.batch(0, known);
        for (int i = 0; i < rows; i++) {
            Check.yes("row", ledger.row(batch, i % 2, centsOf(i, rows)));
        }
        return batch;
    }

    /** Rows of 1 and -1 by turns; an odd number of them ends with 1, 1, -2. */
    static long centsOf(int i, int rows) {
        boolean odd = rows % 2 == 1;
        if (odd && i >= rows - 3) {
            return i == rows - 1 ? -2 : 1;
        }
        return i % 2 == 0 ? 1 : -1;
    }

    /** Begins batches without rows until there are that many. */
    static void fillBatches(DutyLedger ledger, int batches) {
        int latest = ledger.count(1) - 1;
        while (latest < batches - 1) {
            latest = ledger.batch(0, 0);
        }
    }

    /** A batch that is VOID for want of rows. */
    static int emptyVoid(DutyLedger ledger) {
        int batch = ledger.batch(0, 0);
        Check.thrown("post of no rows", Check.STATE, () -> ledger.post(batch));
        return batch;
    }

    static List<Long> counts(DutyLedger ledger) {
        List<Long> all = new ArrayList<>();
        for (int what = 0; what <= 8; what++) {
            all.add((long) ledger.count(what));
        }
        return all;
    }
}
