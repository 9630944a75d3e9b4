/** Promise 8: close. */
public final class CloseTest {
    public static void main(String[] args) {
        noneAtFirst();
        firstAndLastDay();
        onlyRises();
        noSuchDay();
        keepsBatchesOut();
        keepsReversalsOut();
        whatWasPostedStays();
        aheadOfWhatWasPosted();
        Check.finish();
    }

    private static void noneAtFirst() {
        DutyLedger ledger = new DutyLedger();
        Check.due("count(3)", ledger.count(3), -1);
        Check.yes("close(0): above none", ledger.close(0));
        Check.due("count(3)", ledger.count(3), 0);
    }

    private static void firstAndLastDay() {
        DutyLedger first = new DutyLedger();
        Check.yes("close(0)", first.close(0));
        Check.no("close(0) again", first.close(0));
        DutyLedger last = new DutyLedger();
        Check.yes("close(100000)", last.close(100000));
        Check.no("close(100000) again", last.close(100000));
        Check.no("close(99999)", last.close(99999));
        Check.due("count(3)", last.count(3), 100000);
    }

    /** "the closed day only rises": "false if .. it is not above the one that is closed". */
    private static void onlyRises() {
        DutyLedger ledger = new DutyLedger();
        ledger.close(7);
        Check.no("close(6)", ledger.close(6));
        Check.no("close(7)", ledger.close(7));
        Check.no("close(0)", ledger.close(0));
        Check.due("count(3)", ledger.count(3), 7);
        Check.yes("close(8)", ledger.close(8));
        Check.due("count(3)", ledger.count(3), 8);
    }

    /** "false if there is no such day". */
    private static void noSuchDay() {
        DutyLedger ledger = new DutyLedger();
        for (int day : new int[] {-1, 100001, Integer.MIN_VALUE, Integer.MAX_VALUE}) {
            Check.no("close(" + day + ")", ledger.close(day));
        }
        Check.due("count(3)", ledger.count(3), -1);
        ledger.close(5);
        Check.no("close(100001)", ledger.close(100001));
        Check.due("count(3)", ledger.count(3), 5);
    }

    /** "no batch that is known on that day or ahead of it is posted any more". */
    private static void keepsBatchesOut() {
        DutyLedger ledger = Made.withAccounts(0, 1);
        int ahead = Made.open(ledger, 0, 8, 0, 1, 5);
        int on = Made.open(ledger, 0, 9, 0, 1, 5);
        int behind = Made.open(ledger, 0, 10, 0, 1, 5);
        ledger.close(9);
        Check.thrown("post ahead of the closed day", Check.STATE, () -> ledger.post(ahead));
        Check.due("count(5)", ledger.count(5), 3);
        Check.thrown("post on the closed day", Check.STATE, () -> ledger.post(on));
        Check.due("count(5)", ledger.count(5), 3);
        Check.due("post behind it", ledger.post(behind), 1);
        Check.yes("a row may be told on a closed day", ledger.row(ledger.batch(0, 1), 0, 1));
    }

    private static void keepsReversalsOut() {
        DutyLedger ledger = Made.withAccounts(0, 1);
        int batch = Made.posted(ledger, 0, 5, 0, 1, 5);
        ledger.close(9);
        Check.thrown("reverse on the closed day", Check.STATE, () -> ledger.reverse(batch, 9));
        Check.due("reverse behind it", ledger.reverse(batch, 10), 1);
    }

    private static void whatWasPostedStays() {
        DutyLedger ledger = Made.withAccounts(0, 1);
        int batch = Made.posted(ledger, 0, 9, 0, 1, 5);
        ledger.close(9);
        Check.due("balance", ledger.balance(0, 0, 9), 5);
        Check.due("look(0, 0)", ledger.look(batch, 0), 1);
        Check.due("count(2)", ledger.count(2), 2);
        Check.due("count(4)", ledger.count(4), 9);
    }

    /** A closed day may lie ahead of what was posted: then that is what keeps a batch out. */
    private static void aheadOfWhatWasPosted() {
        DutyLedger ledger = Made.withAccounts(0, 1);
        Made.posted(ledger, 0, 9, 0, 1, 5);
        Check.yes("close(3)", ledger.close(3));
        int batch = Made.open(ledger, 0, 4, 0, 1, 5);
        Check.thrown("post", Check.STATE, () -> ledger.post(batch));
        Check.due("count(5)", ledger.count(5), 4);
    }
}
