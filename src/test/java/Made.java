import java.util.ArrayList;
import java.util.List;

/** Ledgers and batches as the tests need them. */
final class Made {
    private Made() {
    }

    static DutyLedger withAccounts(int... kinds) {
        DutyLedger ledger = new DutyLedger();
        for (int kind : kinds) {
            ledger.account(kind);
        }
        return ledger;
    }

    /** A batch that moves cents from one account to another, open yet. */
    static int open(DutyLedger ledger, int valid, int known, int to, int from, long cents) {
        int batch = ledger.batch(valid, known);
        Check.yes("row to", ledger.row(batch, to, cents));
        Check.yes("row from", ledger.row(batch, from, -cents));
        return batch;
    }

    static int posted(DutyLedger ledger, int valid, int known, int to, int from, long cents) {
        int batch = open(ledger, valid, known, to, from, cents);
        Check.due("post", ledger.post(batch), 1);
        return batch;
    }

    /** Posts batches of 20 rows, the last one of what is missing, until the ledger has that many rows. */
    static void fillRows(DutyLedger ledger, int rows) {
        while (ledger.count(2) < rows) {
            int batch = ledger.batch(0, 0);
            int more = Math.min(20, rows - ledger.count(2));
            for (int i = 0; i < more; i++) {
                Check.yes("row", ledger.row(batch, i % 2, centsOf(i, more)));
            }
            Check.due("post", ledger.post(batch), 1);
        }
    }

    /** Rows of 1 and -1 by turns; an odd number of them ends with 1, 1, -2. */
    private static long centsOf(int i, int rows) {
        boolean odd = rows % 2 == 1;
        if (odd && i >= rows - 3) {
            return i == rows - 1 ? -2 : 1;
        }
        return i % 2 == 0 ? 1 : -1;
    }

    static void fillBatches(DutyLedger ledger, int batches) {
        while (ledger.count(1) < batches) {
            ledger.batch(0, 0);
        }
    }

    /** All that can be seen of a ledger from outside. */
    static List<Long> seen(DutyLedger ledger) {
        List<Long> all = new ArrayList<>();
        for (int what = 0; what <= 8; what++) {
            all.add((long) ledger.count(what));
        }
        for (int batch = 0; batch < ledger.count(1); batch++) {
            for (int what = 0; what <= 6; what++) {
                all.add((long) ledger.look(batch, what));
            }
        }
        for (int row = 0; row < ledger.count(2); row++) {
            for (int what = 0; what <= 4; what++) {
                all.add(ledger.read(row, what));
            }
        }
        for (int kind = 0; kind <= 5; kind++) {
            for (int what = 0; what <= 6; what++) {
                all.add(ledger.passed(kind, what, 100000));
            }
        }
        return all;
    }
}
