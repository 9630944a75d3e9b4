/** Promise 11: part. */
public final class PartTest {
    public static void main(String[] args) {
        eachOfItsOwn();
        toldAnew();
        leastAndMost();
        noSuchKind();
        noSuchReceiver();
        cantBe();
        Check.finish();
    }

    private static void eachOfItsOwn() {
        DutyLedger ledger = Made.withAccounts(0, 1, 2, 3, 4, 5);
        for (int kind = 0; kind < 5; kind++) {
            Made.posted(ledger, 0, 0, kind, 5, 1000);
        }
        for (int kind = 0; kind < 5; kind++) {
            Check.yes("part(" + kind + ", " + kind % 4 + ", 1000)", ledger.part(kind, kind % 4, 1000));
        }
        for (int kind = 0; kind < 5; kind++) {
            for (int receiver = 0; receiver < 4; receiver++) {
                Check.due("passed(" + kind + ", " + receiver + ", 0)", ledger.passed(kind, receiver, 0),
                        receiver == kind % 4 ? 1000 : 0);
            }
        }
        Check.yes("part(5, 3, 1)", ledger.part(5, 3, 1));
    }

    private static void toldAnew() {
        DutyLedger ledger = Made.withAccounts(0, 1);
        Made.posted(ledger, 0, 0, 0, 1, 100);
        ledger.part(0, 0, 3);
        ledger.part(0, 1, 1);
        Check.due("passed(0, 0, 0)", ledger.passed(0, 0, 0), 75);
        Check.yes("part(0, 0, 1)", ledger.part(0, 0, 1));
        Check.due("passed(0, 0, 0)", ledger.passed(0, 0, 0), 50);
        Check.yes("part(0, 0, 0)", ledger.part(0, 0, 0));
        Check.due("passed(0, 0, 0)", ledger.passed(0, 0, 0), 0);
        Check.due("passed(0, 1, 0)", ledger.passed(0, 1, 0), 100);
    }

    /** "parts (0 .. 1000)". */
    private static void leastAndMost() {
        DutyLedger ledger = collected();
        Check.yes("part(0, 0, 1000)", ledger.part(0, 0, 1000));
        Check.yes("part(0, 1, 1)", ledger.part(0, 1, 1));
        Check.yes("part(0, 2, 0)", ledger.part(0, 2, 0));
        Check.yes("part(0, 3, 1000)", ledger.part(0, 3, 1000));
        shares(ledger, 1000, 1, 0, 1000);
    }

    /** 2001 cents of kind 0 to pass on. */
    private static DutyLedger collected() {
        DutyLedger ledger = Made.withAccounts(0, 1);
        Made.posted(ledger, 0, 0, 0, 1, 2001);
        return ledger;
    }

    private static void shares(DutyLedger ledger, long... due) {
        for (int receiver = 0; receiver < 4; receiver++) {
            Check.due("passed(0, " + receiver + ", 0)", ledger.passed(0, receiver, 0), due[receiver]);
        }
    }

    /** "false if there is no such kind": 0 to 5 are such, also those without accounts. */
    private static void noSuchKind() {
        DutyLedger ledger = new DutyLedger();
        for (int kind : new int[] {-1, 6, 1 << 30, Integer.MIN_VALUE, Integer.MAX_VALUE}) {
            Check.no("part(" + kind + ", 0, 1)", ledger.part(kind, 0, 1));
        }
        for (int kind = 0; kind <= 5; kind++) {
            Check.yes("part(" + kind + ", 3, 1)", ledger.part(kind, 3, 1));
        }
    }

    /** "or receiver": 0 to 3 are such. A receiver 4 of kind 0 is not the first one of kind 1. */
    private static void noSuchReceiver() {
        DutyLedger ledger = collected();
        for (int receiver : new int[] {-1, 4, 1 << 30, Integer.MIN_VALUE, Integer.MAX_VALUE}) {
            Check.no("part(0, " + receiver + ", 1)", ledger.part(0, receiver, 1));
            Check.no("part(5, " + receiver + ", 1)", ledger.part(5, receiver, 1));
        }
        Check.no("part(1, -1, 1)", ledger.part(1, -1, 1));
        Check.no("part(1, -4, 1)", ledger.part(1, -4, 1));
        shares(ledger, 0, 0, 0, 0);
        for (int receiver = 0; receiver < 4; receiver++) {
            Check.yes("part(0, " + receiver + ", 1)", ledger.part(0, receiver, 1));
        }
    }

    /** "or it can't be": then what was told before holds. */
    private static void cantBe() {
        DutyLedger ledger = collected();
        ledger.part(0, 0, 1000);
        ledger.part(0, 3, 1);
        for (int part : new int[] {-1, 1001, Integer.MIN_VALUE, Integer.MAX_VALUE}) {
            for (int receiver = 0; receiver < 4; receiver++) {
                Check.no("part(0, " + receiver + ", " + part + ")", ledger.part(0, receiver, part));
            }
        }
        shares(ledger, 1999, 0, 0, 2);
    }
}
