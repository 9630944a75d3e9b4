/**
 * All that there may be, at once: 12 accounts, 100 batches and 400 rows. Fifty batches of four rows are reversed,
 * so that it takes 362 of the 512 calls.
 */
public final class FullTest {
    public static void main(String[] args) {
        lastOnes();
        firstOnesThatArent();
        stillAnswers();
        Check.finish();
    }

    private static DutyLedger full() {
        DutyLedger ledger = Made.withAccounts(0, 1, 2, 3, 4, 5, 0, 1, 2, 3, 4, 5);
        for (int i = 0; i < 50; i++) {
            int batch = Made.open(ledger, i, i, 11, 10, 1000 + i);
            Check.yes("row", ledger.row(batch, i % 10, 1));
            Check.yes("row", ledger.row(batch, 11, -1));
            Check.due("post", ledger.post(batch), 1);
            Check.due("reverse", ledger.reverse(batch, i), 2 * i + 1);
        }
        return ledger;
    }

    private static void lastOnes() {
        DutyLedger ledger = full();
        Check.due("accounts", ledger.count(0), 12);
        Check.due("batches", ledger.count(1), 100);
        Check.due("rows", ledger.count(2), 400);
        int[] looks = {1, 4, 98, -1, 0, 49, 49};
        for (int what = 0; what <= 6; what++) {
            Check.due("look(99, " + what + ")", ledger.look(99, what), looks[what]);
        }
        long[][] rows = {{98, 11, -1, 49, 49}, {99, 11, -1049, 49, 49}, {99, 10, 1049, 49, 49}, {99, 9, -1, 49, 49},
            {99, 11, 1, 49, 49}};
        for (int i = 0; i < rows.length; i++) {
            for (int what = 0; what <= 4; what++) {
                Check.due("read(" + (395 + i) + ", " + what + ")", ledger.read(395 + i, what), rows[i][what]);
            }
        }
    }

    private static void firstOnesThatArent() {
        DutyLedger ledger = full();
        Check.thrown("the 13th account", Check.STATE, () -> ledger.account(0));
        Check.thrown("the 101st batch", Check.STATE, () -> ledger.batch(0, 100000));
        Check.thrown("a reversal of a reversed one", Check.STATE, () -> ledger.reverse(98, 100000));
        Check.thrown("post(100)", Check.ARGUMENT, () -> ledger.post(100));
        Check.thrown("reverse(100)", Check.ARGUMENT, () -> ledger.reverse(100, 100000));
        Check.no("row of batch 100", ledger.row(100, 0, 1));
        Check.no("fails of batch 100", ledger.fails(100, true));
        Check.thrown("look(100, 0)", Check.INDEX, () -> ledger.look(100, 0));
        Check.thrown("read(400, 0)", Check.INDEX, () -> ledger.read(400, 0));
        Check.thrown("balance of account 12", Check.ARGUMENT, () -> ledger.balance(12, 0, 0));
        Check.thrown("statement of account 12", Check.ARGUMENT, () -> ledger.statement(12, 0, 0));
        Check.thrown("reconcile of account 12", Check.ARGUMENT, () -> ledger.reconcile(12, 11, 0, 0));
        Check.thrown("reconcile with account 12", Check.ARGUMENT, () -> ledger.reconcile(11, 12, 0, 0));
        Check.due("accounts", ledger.count(0), 12);
        Check.due("batches", ledger.count(1), 100);
        Check.due("rows", ledger.count(2), 400);
    }

    private static void stillAnswers() {
        DutyLedger ledger = full();
        for (int account = 0; account < 12; account++) {
            Check.due("balance of account " + account, ledger.balance(account, 100000, 100000), 0);
            Check.due("statement of account " + account, ledger.statement(account, 1, 100000), 0);
        }
        Check.due("reconcile(10, 11)", ledger.reconcile(10, 11, 100000, 100000), 0);
        Check.due("passed(5, 6)", ledger.passed(5, 6, 100000), 0);
        Check.yes("part(5, 3, 1000)", ledger.part(5, 3, 1000));
        Check.yes("cost(5, 1000)", ledger.cost(5, 1000));
        Check.yes("close(100000)", ledger.close(100000));
        Check.due("count(3)", ledger.count(3), 100000);
    }
}
