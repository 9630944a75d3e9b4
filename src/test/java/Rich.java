import java.util.List;
import java.util.function.Consumer;

/**
 * A ledger with something of everything, for the sentence that a call changes nothing: whatever such a call
 * spoils can be seen. One object has 512 calls, so it is made anew for each call that is looked at.
 */
final class Rich {
    static final int KNOWN_FIRST = 10;
    static final int KNOWN_SECOND = 20;
    static final int CLOSED = 25;
    static final int LATEST = 31;

    static final int POSTED = 0;
    static final int TOLD_TO_FAIL = 2;
    static final int FAILED_ONCE = 3;
    static final int VOID = 4;
    static final int REVERSED = 5;
    static final int REVERSAL = 6;
    static final int EMPTY = 7;
    static final int BATCHES = 8;
    static final int ROWS = 16;

    private Rich() {
    }

    static DutyLedger make() {
        DutyLedger ledger = Made.withAccounts(0, 1, 2, 3, 4, 5, 5, 4, 3, 2, 1, 0);
        for (int kind = 0; kind <= 5; kind++) {
            for (int receiver = 0; receiver <= 3; receiver++) {
                ledger.part(kind, receiver, 100 * kind + 10 * receiver + 1);
            }
            ledger.cost(kind, 10 + kind);
        }
        postForAllKinds(ledger, KNOWN_FIRST, 10000019);
        postForAllKinds(ledger, KNOWN_SECOND, -20000063);
        int told = Made.open(ledger, 61, 41, 6, 7, 77);
        ledger.fails(told, true);
        int failed = Made.open(ledger, 62, 40, 8, 9, 88);
        ledger.fails(failed, true);
        Check.thrown("post", Check.FAILED, () -> ledger.post(failed));
        int uneven = ledger.batch(63, 43);
        ledger.row(uneven, 4, 5);
        Check.thrown("post", Check.STATE, () -> ledger.post(uneven));
        int reversed = Made.posted(ledger, 64, 30, 10, 11, 99);
        Check.due("reverse", ledger.reverse(reversed, LATEST), REVERSAL);
        Check.due("batch", ledger.batch(65, 45), EMPTY);
        Check.yes("close", ledger.close(CLOSED));
        return ledger;
    }

    /** Kinds 0 to 2 gain and 3 to 5 lose, or the other way round. */
    private static void postForAllKinds(DutyLedger ledger, int known, long cents) {
        int batch = ledger.batch(60, known);
        for (int account = 0; account <= 5; account++) {
            ledger.row(batch, account, account <= 2 ? cents : -cents);
        }
        ledger.post(batch);
    }

    /** All that can be seen of it; then its open batches are posted, to see their rows as well. */
    static List<Long> seen(DutyLedger ledger) {
        List<Long> all = Made.counts(ledger);
        for (int batch = 0; batch < BATCHES; batch++) {
            for (int what = 0; what <= 6; what++) {
                all.add((long) ledger.look(batch, what));
            }
        }
        for (int kind = 0; kind <= 5; kind++) {
            for (int what = 0; what <= 6; what++) {
                all.add(ledger.passed(kind, what, kind <= 2 ? KNOWN_FIRST : KNOWN_SECOND));
            }
        }
        all.add((long) ledger.post(FAILED_ONCE));
        Check.thrown("post of the batch told to fail", Check.FAILED, () -> ledger.post(TOLD_TO_FAIL));
        all.add((long) ledger.post(TOLD_TO_FAIL));
        all.add((long) ledger.count(2));
        for (int row = 0; row < ROWS + 4; row++) {
            for (int what = 0; what <= 4; what++) {
                all.add(ledger.read(row, what));
            }
        }
        return all;
    }

    static void changesNothing(String call, Consumer<DutyLedger> made) {
        List<Long> due = seen(make());
        DutyLedger ledger = make();
        made.accept(ledger);
        List<Long> got = seen(ledger);
        if (!got.equals(due)) {
            Check.tell(call + " changed something: seen is " + got + ", due is " + due);
        }
    }
}
