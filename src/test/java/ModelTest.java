import java.util.ArrayList;
import java.util.List;
import java.util.Random;
import java.util.TreeMap;
import java.util.function.LongSupplier;

/** Runs of 512 calls each on the program and on the model, with likely and with wild arguments: both answer alike. */
public final class ModelTest {
    private static final int RUNS = 1500;
    private static final int CALLS = 512;
    private static final int[] WILD = {
        -1, 4, 5, 6, 7, 12, 20, 100, 400, 1000, 1001, 3333, 3334, 100000, 100001, Integer.MIN_VALUE, Integer.MAX_VALUE};

    private final Random random;
    private final DutyLedger ledger = new DutyLedger();
    private final Model model = new Model();
    private final List<String> told = new ArrayList<>();
    private final int wildness;
    private final TreeMap<String, Integer> answers;
    private int day = 0;
    private String fault = null;

    private ModelTest(int seed, TreeMap<String, Integer> answers) {
        random = new Random(seed);
        wildness = new int[] {0, 3, 25}[seed % 3];
        this.answers = answers;
    }

    public static void main(String[] args) {
        TreeMap<String, Integer> answers = new TreeMap<>();
        String fault = null;
        for (int seed = 0; seed < RUNS && fault == null; seed++) {
            fault = new ModelTest(seed, answers).run(seed % 4 == 1);
        }
        if (fault != null) {
            Check.tell(fault);
        }
        for (String needed : List.of("post 1", "post IllegalStateException", "post UnsupportedOperationException",
                "reverse IllegalStateException", "wrong 1", "wrong 2", "wrong 3", "wrong 4", "wrong 5")) {
            Check.yes("the runs reach '" + needed + "'", answers.containsKey(needed));
        }
        Check.finish();
    }

    /** Null if all answers are alike. */
    private String run(boolean nearlyFull) {
        if (nearlyFull) {
            nearlyFill();
        }
        // One less than there are, since the last of these may make two calls.
        while (told.size() < CALLS - 1 && fault == null) {
            call();
        }
        return fault;
    }

    /** Batches of 20 rows that are reversed: few calls for many rows, so that the ledger comes to be full. */
    private void nearlyFill() {
        for (int kind = 0; kind < 3; kind++) {
            int of = kind;
            both("account", () -> ledger.account(of), () -> model.account(of), of);
        }
        for (int i = 0; i < 9; i++) {
            int batch = postPairs(10);
            both("reverse", () -> ledger.reverse(batch, 0), () -> model.reverse(batch, 0), batch, 0);
        }
        postPairs(10);
        postPairs(6 + random.nextInt(5));
    }

    private int postPairs(int pairs) {
        int batch = model.count(1);
        both("batch", () -> ledger.batch(batch, 0), () -> model.batch(batch, 0), batch, 0);
        for (int pair = 0; pair < pairs; pair++) {
            long cents = 1 + random.nextInt(1000000000);
            row(batch, random.nextInt(3), cents);
            row(batch, random.nextInt(3), -cents);
        }
        both("post", () -> ledger.post(batch), () -> model.post(batch), batch);
        return batch;
    }

    private static String answer(LongSupplier call) {
        try {
            return Long.toString(call.getAsLong());
        } catch (RuntimeException e) {
            return e.getClass().getSimpleName();
        }
    }

    /** The call's name and answer. */
    private String both(String name, LongSupplier got, LongSupplier due, long... arguments) {
        StringBuilder text = new StringBuilder(name).append('(');
        for (int i = 0; i < arguments.length; i++) {
            text.append(i == 0 ? "" : ", ").append(arguments[i]);
        }
        told.add(text.append(')').toString());
        String answer = answer(got);
        String wanted = answer(due);
        if (!answer.equals(wanted) && fault == null) {
            fault = told + " answered " + answer + ", due is " + wanted;
        }
        answers.merge(name + " " + answer, 1, Integer::sum);
        answers.merge("wrong " + model.count(5), 1, Integer::sum);
        return name + " " + answer;
    }

    private int some(int bound) {
        return random.nextInt(100) < wildness ? WILD[random.nextInt(WILD.length)] : random.nextInt(bound);
    }

    private int someBatch() {
        int latest = model.count(1);
        return random.nextInt(4) == 0 ? some(latest + 1) : some(100) >= 0 ? latest - 1 - some(2) : -1;
    }

    /** Mostly a day on which a batch can be known, sometimes one that is too early. */
    private int someKnown() {
        if (random.nextInt(6) == 0) {
            day += random.nextInt(4);
        }
        return random.nextInt(12) == 0 ? some(100001) : random.nextInt(8) == 0 ? day - 1 : day;
    }

    private int someValid() {
        return random.nextInt(9) == 0 ? some(100001) : some(95);
    }

    private long someCents() {
        switch (random.nextInt(12)) {
            case 0:
                return random.nextLong();
            case 1:
                return 1000000000L * (random.nextInt(3) - 1) + random.nextInt(3) - 1;
            default:
                return random.nextInt(2001) - 1000;
        }
    }

    private String call() {
        int which = random.nextInt(100);
        if (which < 6) {
            int kind = some(6);
            return both("account", () -> ledger.account(kind), () -> model.account(kind), kind);
        }
        if (which < 14) {
            int valid = someValid();
            int known = someKnown();
            return both("batch", () -> ledger.batch(valid, known), () -> model.batch(valid, known), valid, known);
        }
        if (which < 44) {
            return rows();
        }
        if (which < 47) {
            int batch = someBatch();
            boolean is = random.nextInt(3) != 0;
            return both("fails", () -> ledger.fails(batch, is) ? 1 : 0, () -> model.fails(batch, is) ? 1 : 0,
                    batch, is ? 1 : 0);
        }
        if (which < 58) {
            int batch = someBatch();
            return both("post", () -> ledger.post(batch), () -> model.post(batch), batch);
        }
        if (which < 62) {
            int batch = someBatch();
            int known = someKnown();
            return both("reverse", () -> ledger.reverse(batch, known), () -> model.reverse(batch, known), batch, known);
        }
        return which < 70 ? setting() : question();
    }

    /** Mostly two rows that sum to 0. */
    private String rows() {
        int batch = someBatch();
        long cents = someCents();
        String got = row(batch, some(Math.max(1, model.count(0))), cents);
        if (got.equals("row 1") && random.nextInt(20) != 0) {
            got = row(batch, some(Math.max(1, model.count(0))), -cents);
        }
        return got;
    }

    private String row(int batch, int account, long cents) {
        return both("row", () -> ledger.row(batch, account, cents) ? 1 : 0,
                () -> model.row(batch, account, cents) ? 1 : 0, batch, account, cents);
    }

    private String setting() {
        int kind = some(6);
        switch (random.nextInt(8)) {
            case 0:
                int closed = random.nextInt(3) == 0 ? day - random.nextInt(3) : some(3);
                return both("close", () -> ledger.close(closed) ? 1 : 0, () -> model.close(closed) ? 1 : 0, closed);
            case 1:
            case 2:
                int thousandths = some(1001);
                return both("cost", () -> ledger.cost(kind, thousandths) ? 1 : 0,
                        () -> model.cost(kind, thousandths) ? 1 : 0, kind, thousandths);
            default:
                int receiver = some(4);
                int part = random.nextBoolean() ? some(4) : some(1001);
                return both("part", () -> ledger.part(kind, receiver, part) ? 1 : 0,
                        () -> model.part(kind, receiver, part) ? 1 : 0, kind, receiver, part);
        }
    }

    private String question() {
        int account = some(Math.max(1, model.count(0)));
        int other = some(Math.max(1, model.count(0)));
        int valid = someValid();
        int known = random.nextBoolean() ? someKnown() : some(day + 1);
        switch (random.nextInt(8)) {
            case 0:
                return both("balance", () -> ledger.balance(account, valid, known),
                        () -> model.balance(account, valid, known), account, valid, known);
            case 1:
                int month = random.nextInt(9) == 0 ? some(3334) : some(4);
                return both("statement", () -> ledger.statement(account, month, known),
                        () -> model.statement(account, month, known), account, month, known);
            case 2:
            case 3:
                int kind = some(6);
                int part = some(7);
                return both("passed", () -> ledger.passed(kind, part, known), () -> model.passed(kind, part, known),
                        kind, part, known);
            case 4:
                return both("reconcile", () -> ledger.reconcile(account, other, valid, known),
                        () -> model.reconcile(account, other, valid, known), account, other, valid, known);
            case 5:
                int i = some(model.count(2) + 1);
                int column = some(5);
                return both("read", () -> ledger.read(i, column), () -> model.read(i, column), i, column);
            case 6:
                int batch = someBatch();
                int what = some(7);
                return both("look", () -> ledger.look(batch, what), () -> model.look(batch, what), batch, what);
            default:
                int of = some(9);
                return both("count", () -> ledger.count(of), () -> model.count(of), of);
        }
    }
}
