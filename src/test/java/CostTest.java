/** Promise 12: cost. */
public final class CostTest {
    public static void main(String[] args) {
        eachOfItsOwn();
        toldAnew();
        cantBe();
        Check.finish();
    }

    private static void eachOfItsOwn() {
        DutyLedger ledger = Made.withAccounts(0, 1, 2, 3, 4, 5);
        for (int kind = 1; kind <= 5; kind++) {
            Made.posted(ledger, 0, 0, kind, 0, 10000);
            Check.yes("cost(" + kind + ", " + 7 * kind + ")", ledger.cost(kind, 7 * kind));
        }
        for (int kind = 1; kind <= 5; kind++) {
            Check.due("passed(" + kind + ", 4, 0)", ledger.passed(kind, 4, 0), 70 * kind);
        }
        Check.yes("cost(0, 1)", ledger.cost(0, 1));
    }

    private static void toldAnew() {
        DutyLedger ledger = Made.withAccounts(0, 1);
        Made.posted(ledger, 0, 0, 0, 1, 999);
        int[][] due = {{0, 0}, {1, 0}, {2, 1}, {500, 499}, {999, 998}, {1000, 999}, {0, 0}};
        for (int[] row : due) {
            Check.yes("cost(0, " + row[0] + ")", ledger.cost(0, row[0]));
            Check.due("passed(0, 4, 0)", ledger.passed(0, 4, 0), row[1]);
        }
    }

    private static void cantBe() {
        DutyLedger ledger = Made.withAccounts(0, 1);
        Made.posted(ledger, 0, 0, 0, 1, 1000);
        ledger.cost(0, 5);
        for (int number : new int[] {-1, 1001, Integer.MIN_VALUE, Integer.MAX_VALUE}) {
            Check.no("cost(" + number + ", 1)", ledger.cost(number, 1));
            Check.no("cost(0, " + number + ")", ledger.cost(0, number));
        }
        Check.no("cost(6, 1)", ledger.cost(6, 1));
        Check.due("passed(0, 4, 0)", ledger.passed(0, 4, 0), 5);
    }
}
