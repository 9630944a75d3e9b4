/** The example of README.md, call by call: what its comments tell is what the calls answer. */
public final class UseTest {
    public static void main(String[] args) {
        DutyLedger ledger = new DutyLedger();
        post(ledger);
        ask(ledger);
        passOn(ledger);
        reverseAndClose(ledger);
        Check.finish();
    }

    private static void post(DutyLedger ledger) {
        Check.due("account(0)", ledger.account(0), 0);
        Check.due("account(1)", ledger.account(1), 1);
        Check.due("batch(10, 20)", ledger.batch(10, 20), 0);
        Check.yes("row(0, 0, 1000)", ledger.row(0, 0, 1000));
        Check.yes("row(0, 1, -1000)", ledger.row(0, 1, -1000));
        Check.due("post(0)", ledger.post(0), 1);
    }

    private static void ask(DutyLedger ledger) {
        Check.due("balance(0, 10, 20)", ledger.balance(0, 10, 20), 1000);
        Check.due("balance(0, 9, 20)", ledger.balance(0, 9, 20), 0);
        Check.due("balance(0, 10, 19)", ledger.balance(0, 10, 19), 0);
        Check.due("statement(0, 0, 20)", ledger.statement(0, 0, 20), 1000);
        Check.due("reconcile(0, 1, 10, 20)", ledger.reconcile(0, 1, 10, 20), 0);
    }

    private static void passOn(DutyLedger ledger) {
        Check.yes("part(0, 0, 2)", ledger.part(0, 0, 2));
        Check.yes("part(0, 1, 1)", ledger.part(0, 1, 1));
        Check.yes("cost(0, 25)", ledger.cost(0, 25));
        Check.due("passed(0, 0, 20)", ledger.passed(0, 0, 20), 650);
        Check.due("passed(0, 1, 20)", ledger.passed(0, 1, 20), 325);
        Check.due("passed(0, 4, 20)", ledger.passed(0, 4, 20), 25);
    }

    private static void reverseAndClose(DutyLedger ledger) {
        Check.due("reverse(0, 25)", ledger.reverse(0, 25), 1);
        Check.due("balance(0, 10, 24)", ledger.balance(0, 10, 24), 1000);
        Check.due("balance(0, 10, 25)", ledger.balance(0, 10, 25), 0);
        Check.due("read(3, 2)", ledger.read(3, 2), 1000);
        Check.due("look(0, 3)", ledger.look(0, 3), 1);
        Check.yes("close(25)", ledger.close(25));
        Check.due("count(3)", ledger.count(3), 25);
    }
}
