/** Promise 13: passed. */
public final class PassedTest {
    public static void main(String[] args) {
        noCentsLeft();
        oneEachToTheGreatestRemainders();
        ofEqualOnesTheLeast();
        nothingWithoutAPart();
        costIsFloored();
        costIsAll();
        noParts();
        sumOfAKind();
        everyKind();
        aboveZero();
        notAboveZero();
        firstAndLastKnownDay();
        greatestCost();
        greatestShares();
        noAccountsYet();
        noSuchKind();
        noSuchWhat();
        noSuchDay();
        Check.finish();
    }

    /** The parts of the four receivers; then what they get, COST, KEPT and S. */
    private static void split(long cents, int thousandths, int[] parts, long... due) {
        DutyLedger ledger = Made.withAccounts(2, 3);
        Made.posted(ledger, 70, 9, 0, 1, cents);
        ledger.cost(2, thousandths);
        for (int receiver = 0; receiver < 4; receiver++) {
            ledger.part(2, receiver, parts[receiver]);
        }
        for (int what = 0; what <= 6; what++) {
            Check.due("passed(2, " + what + ", 9) of " + cents, ledger.passed(2, what, 9), due[what]);
            Check.due("passed(2, " + what + ", 8) of " + cents, ledger.passed(2, what, 8), 0);
        }
    }

    private static int[] parts(int... parts) {
        return parts;
    }

    /** "each receiver gets FLOOR of it by the parts": where that is exact, no cents are left. */
    private static void noCentsLeft() {
        split(100, 0, parts(1, 1, 1, 1), 25, 25, 25, 25, 0, 0, 100);
        split(10, 0, parts(1, 2, 3, 4), 1, 2, 3, 4, 0, 0, 10);
        split(3001, 0, parts(1000, 1000, 1, 1000), 1000, 1000, 1, 1000, 0, 0, 3001);
    }

    /** "the cents that are left go one each to receivers with the greatest remainders": one, two and three cents. */
    private static void oneEachToTheGreatestRemainders() {
        split(1, 0, parts(1, 2, 3, 4), 0, 0, 0, 1, 0, 0, 1);
        split(2, 0, parts(1, 2, 3, 4), 0, 0, 1, 1, 0, 0, 2);
        split(7, 0, parts(1, 2, 3, 4), 1, 1, 2, 3, 0, 0, 7);
        split(11, 0, parts(1, 2, 2, 2), 2, 3, 3, 3, 0, 0, 11);
        split(2, 0, parts(1000, 1, 1000, 1000), 1, 0, 1, 0, 0, 0, 2);
        split(3, 0, parts(999, 1000, 1000, 1000), 0, 1, 1, 1, 0, 0, 3);
    }

    /** "of equal ones the least". */
    private static void ofEqualOnesTheLeast() {
        split(101, 0, parts(1, 1, 1, 1), 26, 25, 25, 25, 0, 0, 101);
        split(102, 0, parts(1, 1, 1, 1), 26, 26, 25, 25, 0, 0, 102);
        split(103, 0, parts(1, 1, 1, 1), 26, 26, 26, 25, 0, 0, 103);
        split(10, 0, parts(1, 7, 7, 0), 1, 5, 4, 0, 0, 0, 10);
        split(1, 0, parts(0, 1, 0, 1), 0, 1, 0, 0, 0, 0, 1);
    }

    /** A receiver with a part of 0 has no remainder, and gets no cent that is left. */
    private static void nothingWithoutAPart() {
        split(1, 0, parts(0, 0, 1, 1), 0, 0, 1, 0, 0, 0, 1);
        split(10, 0, parts(7, 7, 1, 0), 5, 5, 0, 0, 0, 0, 10);
        split(10, 0, parts(0, 0, 0, 3), 0, 0, 0, 10, 0, 0, 10);
        split(5, 0, parts(0, 1, 1, 0), 0, 3, 2, 0, 0, 0, 5);
    }

    /** "COST is FLOOR(S * thousandths / 1000)". */
    private static void costIsFloored() {
        split(1001, 250, parts(1, 1, 0, 2), 188, 188, 0, 375, 250, 250, 1001);
        split(999, 1, parts(1, 0, 0, 0), 999, 0, 0, 0, 0, 0, 999);
        split(1000, 1, parts(1, 0, 0, 0), 999, 0, 0, 0, 1, 1, 1000);
        split(50, 30, parts(0, 1, 1, 0), 0, 25, 24, 0, 1, 1, 50);
        split(1, 999, parts(0, 1, 0, 0), 0, 1, 0, 0, 0, 0, 1);
    }

    /** The most thousandths leave nothing to pass on. */
    private static void costIsAll() {
        split(1234, 1000, parts(1, 2, 3, 4), 0, 0, 0, 0, 1234, 1234, 1234);
        split(1, 1000, parts(1, 1, 1, 1), 0, 0, 0, 0, 1, 1, 1);
    }

    /** "none, if all parts are 0: then nothing is passed on, and all is what is KEPT". */
    private static void noParts() {
        split(1001, 250, parts(0, 0, 0, 0), 0, 0, 0, 0, 250, 1001, 1001);
        split(3, 0, parts(0, 0, 0, 0), 0, 0, 0, 0, 0, 3, 3);
        split(7, 1000, parts(0, 0, 0, 0), 0, 0, 0, 0, 7, 7, 7);
    }

    /** "the sum S of the balances of all accounts of that kind (for any valid day)". */
    private static void sumOfAKind() {
        DutyLedger ledger = Made.withAccounts(1, 0, 1, 1);
        Made.posted(ledger, 100000, 5, 0, 1, 600);
        Made.posted(ledger, 0, 6, 2, 1, 50);
        Made.posted(ledger, 0, 7, 1, 3, 300);
        Made.posted(ledger, 0, 8, 0, 3, 1000);
        int[][] due = {{4, 0}, {5, 600}, {6, 650}, {7, 350}, {8, 350}, {100000, 350}};
        for (int[] row : due) {
            Check.due("passed(1, 6, " + row[0] + ")", ledger.passed(1, 6, row[0]), row[1]);
        }
        Check.due("a kind without accounts", ledger.passed(5, 6, 8), 0);
    }

    /** All accounts there can be, and parts and costs of all kinds, which must not get mixed up. */
    private static void everyKind() {
        for (int kind = 0; kind < 6; kind++) {
            DutyLedger ledger = Made.withAccounts(5, 4, 3, 2, 1, 0, 0, 1, 2, 3, 4, 5);
            for (int told = 0; told < 6; told++) {
                for (int receiver = 0; receiver < 4; receiver++) {
                    ledger.part(told, receiver, told + receiver);
                }
                ledger.cost(told, 10 * told);
            }
            Made.posted(ledger, 0, 0, 6 + kind, kind, 1000);
            Made.posted(ledger, 0, 0, 5 - kind, kind, 1000);
            long rest = 2000 - 20 * kind;
            Check.due("S of kind " + kind, ledger.passed(kind, 6, 0), 2000);
            Check.due("COST of kind " + kind, ledger.passed(kind, 4, 0), 20 * kind);
            Check.due("KEPT of kind " + kind, ledger.passed(kind, 5, 0), 20 * kind);
            for (int receiver = 0; receiver < 4; receiver++) {
                long off = ledger.passed(kind, receiver, 0) - rest * (kind + receiver) / (4 * kind + 6);
                Check.yes("a share of kind " + kind + " is whole, or one cent more", off == 0 || off == 1);
            }
        }
    }

    private static void all(DutyLedger ledger, int known, long... due) {
        for (int what = 0; what <= 6; what++) {
            Check.due("passed(1, " + what + ", " + known + ")", ledger.passed(1, what, known), due[what]);
        }
    }

    /** "if it is above 0": 1 is. */
    private static void aboveZero() {
        DutyLedger ledger = Made.withAccounts(0, 1, 1);
        ledger.part(1, 2, 10);
        Made.posted(ledger, 0, 0, 1, 0, 500);
        Made.posted(ledger, 0, 0, 0, 2, 499);
        all(ledger, 0, 0, 0, 1, 0, 0, 0, 1);
    }

    /** "else 0": at -601, -1 and 0; then at 3 as ever. */
    private static void notAboveZero() {
        DutyLedger ledger = Made.withAccounts(0, 1);
        ledger.part(1, 0, 10);
        ledger.part(1, 1, 10);
        ledger.cost(1, 500);
        Made.posted(ledger, 0, 0, 0, 1, 601);
        all(ledger, 0, 0, 0, 0, 0, 0, 0, 0);
        Made.posted(ledger, 0, 1, 1, 0, 600);
        all(ledger, 1, 0, 0, 0, 0, 0, 0, 0);
        Made.posted(ledger, 0, 2, 1, 0, 1);
        all(ledger, 2, 0, 0, 0, 0, 0, 0, 0);
        Made.posted(ledger, 0, 3, 1, 0, 3);
        all(ledger, 3, 1, 1, 0, 0, 1, 1, 3);
    }

    private static void firstAndLastKnownDay() {
        DutyLedger ledger = Made.withAccounts(0, 1);
        ledger.part(1, 3, 1);
        Made.posted(ledger, 100000, 0, 1, 0, 5);
        Made.posted(ledger, 0, 100000, 1, 0, 70);
        all(ledger, 0, 0, 0, 0, 5, 0, 0, 5);
        all(ledger, 99999, 0, 0, 0, 5, 0, 0, 5);
        all(ledger, 100000, 0, 0, 0, 75, 0, 0, 75);
    }

    /** A full ledger, half of its rows with the most cents for one kind: more than it can have there is none. */
    private static DutyLedger greatest() {
        DutyLedger ledger = Made.withAccounts(0, 1);
        for (int i = 0; i < 20; i++) {
            int batch = ledger.batch(0, 0);
            for (int row = 0; row < 20; row++) {
                ledger.row(batch, row % 2, row % 2 == 0 ? -1000000000 : 1000000000);
            }
            Check.due("post", ledger.post(batch), 1);
        }
        return ledger;
    }

    private static void greatestCost() {
        DutyLedger ledger = greatest();
        for (int receiver = 0; receiver < 4; receiver++) {
            ledger.part(1, receiver, receiver == 3 ? 1000 : 999);
        }
        ledger.cost(1, 999);
        all(ledger, 0, 49987491, 49987491, 49987490, 50037528, 199800000000L, 199800000000L, 200000000000L);
    }

    private static void greatestShares() {
        DutyLedger ledger = greatest();
        ledger.part(1, 0, 1000);
        ledger.part(1, 1, 999);
        ledger.part(1, 2, 1000);
        ledger.part(1, 3, 1);
        all(ledger, 0, 66666666667L, 66600000000L, 66666666667L, 66666666, 0, 0, 200000000000L);
    }

    private static void noAccountsYet() {
        DutyLedger ledger = new DutyLedger();
        ledger.part(1, 0, 1000);
        ledger.cost(1, 1000);
        all(ledger, 100000, 0, 0, 0, 0, 0, 0, 0);
    }

    /** "IllegalArgumentException if there is no such kind": 0 to 5 are such. */
    private static void noSuchKind() {
        DutyLedger ledger = Made.withAccounts(0, 1);
        for (int kind : new int[] {-1, 6, 1 << 30, Integer.MIN_VALUE, Integer.MAX_VALUE}) {
            for (int what = 0; what <= 6; what++) {
                int of = what;
                Check.thrown("passed(" + kind + ", " + what + ", 0)", Check.ARGUMENT,
                        () -> ledger.passed(kind, of, 0));
            }
        }
        for (int kind = 0; kind <= 5; kind++) {
            Check.due("passed(" + kind + ", 0, 0)", ledger.passed(kind, 0, 0), 0);
        }
    }

    /** "or what": 0 to 6 are such. */
    private static void noSuchWhat() {
        DutyLedger ledger = Made.withAccounts(0, 1);
        for (int what : new int[] {-1, 7, Integer.MIN_VALUE, Integer.MAX_VALUE}) {
            Check.thrown("passed(0, " + what + ", 0)", Check.ARGUMENT, () -> ledger.passed(0, what, 0));
        }
    }

    /** "day". */
    private static void noSuchDay() {
        DutyLedger ledger = Made.withAccounts(0, 1);
        for (int day : new int[] {-1, 100001, Integer.MIN_VALUE, Integer.MAX_VALUE}) {
            for (int what = 0; what <= 6; what++) {
                int of = what;
                Check.thrown("passed(0, " + what + ", " + day + ")", Check.ARGUMENT,
                        () -> ledger.passed(0, of, day));
            }
        }
    }
}
