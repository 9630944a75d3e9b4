import java.util.function.Predicate;

/** A call that is refused by false has changed nothing: row, fails, close, part and cost. */
public final class RefusedTest {
    private static final int[] NO_NUMBERS = {-1, Integer.MIN_VALUE, Integer.MAX_VALUE, 1 << 30, -(1 << 30)};
    private static final int[] NOT_OPEN = {Rich.POSTED, Rich.VOID, Rich.REVERSED, Rich.REVERSAL, Rich.BATCHES, 100};

    public static void main(String[] args) {
        row();
        fails();
        close();
        part();
        cost();
        Check.finish();
    }

    private static void refused(String call, Predicate<DutyLedger> made) {
        Rich.changesNothing(call, ledger -> Check.no(call, made.test(ledger)));
    }

    private static void row() {
        for (int batch : NOT_OPEN) {
            refused("row of batch " + batch, ledger -> ledger.row(batch, 0, 5));
        }
        for (int number : NO_NUMBERS) {
            refused("row of batch " + number, ledger -> ledger.row(number, 0, 5));
            refused("row of account " + number, ledger -> ledger.row(Rich.FAILED_ONCE, number, 5));
        }
        refused("row of account 12", ledger -> ledger.row(Rich.FAILED_ONCE, 12, 5));
        for (long cents : new long[] {0, 1000000001, -1000000001, (1L << 32) + 5, -(1L << 32) - 5}) {
            refused("row of cents " + cents, ledger -> ledger.row(Rich.FAILED_ONCE, 0, cents));
        }
    }

    private static void fails() {
        for (int batch : NOT_OPEN) {
            refused("fails of batch " + batch, ledger -> ledger.fails(batch, true));
            refused("fails not of batch " + batch, ledger -> ledger.fails(batch, false));
        }
        for (int batch : NO_NUMBERS) {
            refused("fails of batch " + batch, ledger -> ledger.fails(batch, true));
        }
    }

    private static void close() {
        for (int day : new int[] {0, Rich.CLOSED - 1, Rich.CLOSED, 100001}) {
            refused("close " + day, ledger -> ledger.close(day));
        }
        for (int day : NO_NUMBERS) {
            refused("close " + day, ledger -> ledger.close(day));
        }
    }

    private static void part() {
        for (int kind = 0; kind <= 5; kind++) {
            int of = kind;
            refused("part of receiver 4", ledger -> ledger.part(of, 4, 7));
            refused("part of receiver -1", ledger -> ledger.part(of, -1, 7));
            refused("part 1001", ledger -> ledger.part(of, 3, 1001));
            refused("part -1", ledger -> ledger.part(of, 0, -1));
        }
        refused("part of kind 6", ledger -> ledger.part(6, 0, 7));
        for (int number : NO_NUMBERS) {
            refused("part of kind " + number, ledger -> ledger.part(number, 0, 7));
            refused("part of receiver " + number, ledger -> ledger.part(0, number, 7));
            refused("part " + number, ledger -> ledger.part(0, 0, number));
        }
    }

    private static void cost() {
        for (int kind = 0; kind <= 5; kind++) {
            int of = kind;
            refused("cost 1001", ledger -> ledger.cost(of, 1001));
            refused("cost -1", ledger -> ledger.cost(of, -1));
        }
        refused("cost of kind 6", ledger -> ledger.cost(6, 7));
        for (int number : NO_NUMBERS) {
            refused("cost of kind " + number, ledger -> ledger.cost(number, 7));
            refused("cost " + number, ledger -> ledger.cost(0, number));
        }
    }
}
