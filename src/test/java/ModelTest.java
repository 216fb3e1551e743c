import java.util.Random;

/**
 * Random runs, always the same ones: each call is made of the program and of the model, and must
 * answer or throw alike; behind each call that may change something all that can be asked is.
 */
final class ModelTest {
    private static final int RUNS = 600;
    private static final int CALLS = 512;

    private final Random random;
    private final Queuefloat hub = new Queuefloat();
    private final Model model = new Model();
    private final int largest;
    private final int banks;
    private final boolean inRings;
    private int faults = 0;
    private String call = "";

    private ModelTest(int seed) {
        random = new Random(seed);
        largest = new int[] {12, 300, 100000}[seed % 3];
        banks = 2 + seed / 3 % 4;
        inRings = seed / 12 % 2 == 1;
    }

    static void all() {
        for (int seed = 0; seed < RUNS; seed++) {
            ModelTest run = new ModelTest(seed);
            for (int i = 0; i < CALLS && run.faults == 0; i++) {
                run.step();
            }
            Check.due("random run " + seed + ", faults at " + run.call, 0, run.faults);
        }
    }

    private void same(String what, Check.Call program, Check.Call second) {
        call = what;
        String got = Check.outcome(program);
        String want = Check.outcome(second);
        if (!got.equals(want)) {
            faults++;
            System.out.println(what + " answered " + got + ", the model " + want);
        }
    }

    /** Mostly from least to most, now and then at or past an edge. */
    private int value(int least, int most) {
        switch (random.nextInt(40)) {
            case 0: return least - 1;
            case 1: return most + 1;
            case 2: return least;
            case 3: return most;
            case 4: return random.nextInt();
            default: return least + random.nextInt(most - least + 1);
        }
    }

    private int bank() {
        return random.nextInt(60) == 0 ? value(0, 4) : random.nextInt(banks);
    }

    private int amount(int most) {
        return random.nextInt(30) == 0 ? value(1, most) : 1 + random.nextInt(Math.min(most, largest));
    }

    /** Payments are entered seldom enough that most of the calls come before the sixtieth. */
    private void step() {
        int kind = random.nextInt(100);
        if (kind < 17) {
            payStep();
        } else if (kind < 19) {
            int payment = value(0, 59);
            same("drop " + payment, () -> hub.drop(payment), () -> model.drop(payment));
        } else if (kind < 50) {
            bankStep(kind % 10);
        } else if (kind < 80) {
            runStep(kind % 10);
        } else {
            loanStep(kind % 10);
        }
        askAll();
    }

    /** In every other run most payments are alike and go round, so that sets come about. */
    private void payStep() {
        boolean round = inRings && random.nextInt(5) != 0;
        int from = round ? random.nextInt(banks) : bank();
        int to = round ? (from + 1) % banks : bank();
        int amount = round ? largest - random.nextInt(2) : amount(100000);
        int priority = random.nextInt(30) == 0 ? value(0, 2) : random.nextInt(3);
        same("pay " + from + " " + to + " " + amount + " " + priority,
                () -> hub.pay(from, to, amount, priority), () -> model.pay(from, to, amount, priority));
    }

    private void bankStep(int kind) {
        int bank = bank();
        int other = bank();
        if (kind < (inRings ? 1 : 3)) {
            int cents = amount(1000000);
            same("fund " + bank + " " + cents, () -> hub.fund(bank, cents), () -> model.fund(bank, cents));
        } else if (kind < 5) {
            int floor = random.nextInt(3) == 0 ? 1 - amount(1000001) : -random.nextInt(largest + 1);
            same("setFloor " + bank + " " + floor, () -> hub.setFloor(bank, floor), () -> model.setFloor(bank, floor));
        } else if (kind < 8) {
            int bound = random.nextInt(4) == 0 ? value(0, 1000000) : amount(1000001) - 1;
            same("setBound " + bank + " " + other + " " + bound,
                    () -> hub.setBound(bank, other, bound), () -> model.setBound(bank, other, bound));
        } else {
            int papers = random.nextInt(3) != 0 ? value(1, 1000) : 1 + random.nextInt(5);
            same("givePapers " + bank + " " + papers,
                    () -> hub.givePapers(bank, papers), () -> model.givePapers(bank, papers));
        }
    }

    private void runStep(int kind) {
        if (kind < 6) {
            same("run", hub::run, model::run);
        } else if (kind < 7) {
            int small = random.nextInt(4) == 0 ? value(0, 100000) : amount(100000);
            same("setSmall " + small, () -> hub.setSmall(small), () -> model.setSmall(small));
        } else {
            same("canAny", () -> hub.canAny() ? 1 : 0, () -> model.canAny() ? 1 : 0);
        }
    }

    private void loanStep(int kind) {
        if (kind < 1) {
            same("morning", hub::morning, model::morning);
        } else if (kind < 3) {
            int price = value(1, 1000);
            int cut = value(0, 1000);
            same("setPrice " + price + " " + cut, () -> {
                hub.setPrice(price, cut);
                return 0;
            }, () -> model.setPrice(price, cut));
        } else {
            int lender = bank();
            int borrower = bank();
            int amount = amount(100000);
            int rate = value(0, 200);
            int papers = random.nextInt(4) == 0 ? value(0, 1000) : random.nextInt(9);
            same("lend " + lender + " " + borrower + " " + amount + " " + rate + " " + papers,
                    () -> hub.lend(lender, borrower, amount, rate, papers),
                    () -> model.lend(lender, borrower, amount, rate, papers));
        }
    }

    /** Stops at the first fault, so that the call named last is the one that shows it. */
    private void askAll() {
        String cause = call;
        for (int i = -1; i <= 5 && faults == 0; i++) {
            int bank = i;
            same(cause + ": account " + bank, () -> hub.account(bank), () -> model.account(bank));
            same(cause + ": papers " + bank, () -> hub.papers(bank), () -> model.papers(bank));
            same(cause + ": isOpen " + bank, () -> hub.isOpen(bank) ? 1 : 0, () -> model.isOpen(bank) ? 1 : 0);
            for (int j = 0; j <= 5; j++) {
                int other = j;
                same(cause + ": paid " + bank + " " + other,
                        () -> hub.paid(bank, other), () -> model.paid(bank, other));
                same(cause + ": queued " + bank + " " + (other - 1),
                        () -> hub.queued(bank, other - 1), () -> model.queued(bank, other - 1));
            }
        }
        for (int i = -1; i <= 60 && faults == 0; i++) {
            int payment = i;
            same(cause + ": why " + payment, () -> hub.why(payment), () -> model.why(payment));
        }
        same(cause + ": loans", hub::loans, model::loans);
        same(cause + ": sold", hub::sold, model::sold);
    }
}
