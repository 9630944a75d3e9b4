/** "An object is used for at most 512 calls after it has been made": the last of them is answered as any other. */
public final class CallsTest {
    public static void main(String[] args) {
        posts();
        questions();
        refusedCalls();
        Check.finish();
    }

    /** 5 calls, 253 failures of two calls each, and the 512th one. */
    private static void posts() {
        DutyLedger asked = failedOften();
        Check.due("the 512th call: failures so far", asked.count(8), 253);
        DutyLedger posted = failedOften();
        Check.due("the 512th call: post", posted.post(0), 1);
    }

    private static DutyLedger failedOften() {
        DutyLedger ledger = Made.withAccounts(0, 1);
        int batch = Made.open(ledger, 0, 0, 0, 1, 5);
        for (int i = 0; i < 253; i++) {
            Check.yes("fails", ledger.fails(batch, true));
            Check.thrown("post", Check.FAILED, () -> ledger.post(batch));
        }
        return ledger;
    }

    private static void questions() {
        DutyLedger ledger = Made.withAccounts(0, 1);
        Made.posted(ledger, 0, 0, 0, 1, 5);
        for (int call = 7; call <= 512; call++) {
            Check.due("call " + call + ": balance", ledger.balance(0, 0, 0), 5);
        }
    }

    private static void refusedCalls() {
        DutyLedger ledger = new DutyLedger();
        for (int call = 1; call < 512; call++) {
            Check.thrown("call " + call + ": account(6)", Check.ARGUMENT, () -> ledger.account(6));
        }
        Check.due("the 512th call: account", ledger.account(5), 0);
    }
}
