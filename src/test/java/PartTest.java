/** Promise 11: part. */
public final class PartTest {
    public static void main(String[] args) {
        eachOfItsOwn();
        toldAnew();
        cantBe();
        Check.finish();
    }

    private static void eachOfItsOwn() {
        DutyLedger ledger = Made.withAccounts(0, 1, 2, 3, 4, 5);
        for (int kind = 0; kind < 5; kind++) {
            Made.posted(ledger, 0, 0, kind, 5, 1000);
        }
        for (int kind = 0; kind < 5; kind++) {
            Check.yes("part(" + kind + ", " + kind % 4 + ", 1000)", ledger.part(kind, kind % 4, 1000));
        }
        for (int kind = 0; kind < 5; kind++) {
            for (int receiver = 0; receiver < 4; receiver++) {
                Check.due("passed(" + kind + ", " + receiver + ", 0)", ledger.passed(kind, receiver, 0),
                        receiver == kind % 4 ? 1000 : 0);
            }
        }
        Check.yes("part(5, 3, 1)", ledger.part(5, 3, 1));
    }

    private static void toldAnew() {
        DutyLedger ledger = Made.withAccounts(0, 1);
        Made.posted(ledger, 0, 0, 0, 1, 100);
        ledger.part(0, 0, 3);
        ledger.part(0, 1, 1);
        Check.due("passed(0, 0, 0)", ledger.passed(0, 0, 0), 75);
        Check.yes("part(0, 0, 1)", ledger.part(0, 0, 1));
        Check.due("passed(0, 0, 0)", ledger.passed(0, 0, 0), 50);
        Check.yes("part(0, 0, 0)", ledger.part(0, 0, 0));
        Check.due("passed(0, 0, 0)", ledger.passed(0, 0, 0), 0);
        Check.due("passed(0, 1, 0)", ledger.passed(0, 1, 0), 100);
    }

    private static void cantBe() {
        DutyLedger ledger = Made.withAccounts(0, 1);
        Made.posted(ledger, 0, 0, 0, 1, 100);
        ledger.part(0, 0, 1);
        for (int number : new int[] {-1, 1001, Integer.MIN_VALUE, Integer.MAX_VALUE}) {
            Check.no("part(" + number + ", 0, 1)", ledger.part(number, 0, 1));
            Check.no("part(0, " + number + ", 1)", ledger.part(0, number, 1));
            Check.no("part(0, 1, " + number + ")", ledger.part(0, 1, number));
        }
        Check.no("part(6, 0, 1)", ledger.part(6, 0, 1));
        Check.no("part(0, 4, 1)", ledger.part(0, 4, 1));
        Check.no("part(1, -1, 1)", ledger.part(1, -1, 1));
        Check.due("passed(0, 0, 0)", ledger.passed(0, 0, 0), 100);
    }
}
