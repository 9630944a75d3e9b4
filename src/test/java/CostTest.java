/** Promise 12: cost. */
public final class CostTest {
    public static void main(String[] args) {
        eachOfItsOwn();
        toldAnew();
        noSuchKind();
        cantBe();
        Check.finish();
    }

    private static void eachOfItsOwn() {
        DutyLedger ledger = Made.withAccounts(0, 1, 2, 3, 4, 5);
        for (int kind = 1; kind <= 5; kind++) {
            Made.posted(ledger, 0, 0, kind, 0, 10000);
            Check.yes("cost(" + kind + ", " + 7 * kind + ")", ledger.cost(kind, 7 * kind));
        }
        for (int kind = 1; kind <= 5; kind++) {
            Check.due("passed(" + kind + ", 4, 0)", ledger.passed(kind, 4, 0), 70 * kind);
        }
        Check.yes("cost(0, 1)", ledger.cost(0, 1));
    }

    /** "thousandths (0 .. 1000)": the least and the most, and again the least. */
    private static void toldAnew() {
        DutyLedger ledger = Made.withAccounts(0, 1);
        Made.posted(ledger, 0, 0, 0, 1, 999);
        int[][] due = {{0, 0}, {1, 0}, {2, 1}, {500, 499}, {999, 998}, {1000, 999}, {0, 0}};
        for (int[] row : due) {
            Check.yes("cost(0, " + row[0] + ")", ledger.cost(0, row[0]));
            Check.due("passed(0, 4, 0)", ledger.passed(0, 4, 0), row[1]);
        }
    }

    /** "false if there is no such kind": 0 to 5 are such, also those without accounts. */
    private static void noSuchKind() {
        DutyLedger ledger = new DutyLedger();
        for (int kind : new int[] {-1, 6, Integer.MIN_VALUE, Integer.MAX_VALUE}) {
            Check.no("cost(" + kind + ", 1)", ledger.cost(kind, 1));
        }
        for (int kind = 0; kind <= 5; kind++) {
            Check.yes("cost(" + kind + ", 1000)", ledger.cost(kind, 1000));
        }
    }

    /** "or it can't be": then what was told before holds. */
    private static void cantBe() {
        DutyLedger ledger = Made.withAccounts(0, 1);
        Made.posted(ledger, 0, 0, 0, 1, 1000);
        ledger.cost(0, 5);
        for (int thousandths : new int[] {-1, 1001, Integer.MIN_VALUE, Integer.MAX_VALUE}) {
            Check.no("cost(0, " + thousandths + ")", ledger.cost(0, thousandths));
        }
        Check.due("passed(0, 4, 0)", ledger.passed(0, 4, 0), 5);
    }
}
