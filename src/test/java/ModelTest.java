import java.util.Random;

/**
 * Random runs, always the same ones: each call is made of the program and of the model, and must
 * answer or throw alike; at the end of a run all that can be asked is. No object is used for more
 * than 512 calls, so that only what is promised is tested.
 */
final class ModelTest {
    private static final int RUNS = 6000;
    private static final int MOST_CALLS = 512;
    private static final int CALLS_BEFORE_THE_LAST_ASKING = 330;

    private final Random random;
    private final Queuefloat hub = new Queuefloat();
    private final Model model = new Model();
    private final int largest;
    private final int banks;
    private final boolean inRings;
    private final int questions;
    private int calls = 0;
    private int faults = 0;
    private String call = "";

    private ModelTest(int seed) {
        random = new Random(seed);
        largest = new int[] {12, 300, 100000}[seed % 3];
        banks = 2 + seed / 3 % 4;
        inRings = seed / 12 % 2 == 1;
        questions = seed / 24 % 4;
    }

    static void all() {
        for (int seed = 0; seed < RUNS; seed++) {
            ModelTest run = new ModelTest(seed);
            while (run.calls < CALLS_BEFORE_THE_LAST_ASKING && run.faults == 0) {
                run.step();
            }
            run.askAll();
            Check.due("random run " + seed + ", faults at " + run.call, 0, run.faults);
            Check.due("random run " + seed + ", not too long", true, run.calls <= MOST_CALLS);
        }
    }

    private void same(String what, Check.Call program, Check.Call second) {
        call = what;
        calls++;
        String got = Check.outcome(program);
        String want = Check.outcome(second);
        if (!got.equals(want)) {
            faults++;
            System.out.println(what + " answered " + got + ", the model " + want);
        }
    }

    /** Mostly from least to most, now and then at or past an edge. */
    private int value(int least, int most) {
        switch (random.nextInt(40)) {
            case 0: return least - 1;
            case 1: return most + 1;
            case 2: return least;
            case 3: return most;
            case 4: return random.nextInt();
            default: return least + random.nextInt(most - least + 1);
        }
    }

    private int bank() {
        return random.nextInt(60) == 0 ? value(0, 4) : random.nextInt(banks);
    }

    private int amount(int most) {
        return random.nextInt(30) == 0 ? value(1, most) : 1 + random.nextInt(Math.min(most, largest));
    }

    /** Payments are entered seldom enough that most of the calls come before the sixtieth. */
    private void step() {
        int kind = random.nextInt(100);
        if (kind < 17) {
            payStep();
        } else if (kind < 19) {
            int payment = value(0, 59);
            same("drop " + payment, () -> hub.drop(payment), () -> model.drop(payment));
        } else if (kind < 50) {
            bankStep(kind % 10);
        } else if (kind < 80) {
            runStep(kind % 10);
        } else {
            loanStep(kind % 10);
        }
        for (int i = 0; i < questions; i++) {
            ask();
        }
    }

    /** In every other run most payments are alike and go round, so that sets come about. */
    private void payStep() {
        boolean round = inRings && random.nextInt(5) != 0;
        int from = round ? random.nextInt(banks) : bank();
        int to = round ? (from + 1) % banks : bank();
        int amount = round ? largest - random.nextInt(2) : amount(100000);
        int priority = random.nextInt(30) == 0 ? value(0, 2) : random.nextInt(3);
        same("pay " + from + " " + to + " " + amount + " " + priority,
                () -> hub.pay(from, to, amount, priority), () -> model.pay(from, to, amount, priority));
    }

    private void bankStep(int kind) {
        int bank = bank();
        int other = bank();
        if (kind < (inRings ? 1 : 3)) {
            int cents = amount(1000000);
            same("fund " + bank + " " + cents, () -> hub.fund(bank, cents), () -> model.fund(bank, cents));
        } else if (kind < 5) {
            int floor = random.nextInt(3) == 0 ? 1 - amount(1000001) : -random.nextInt(largest + 1);
            same("setFloor " + bank + " " + floor, () -> hub.setFloor(bank, floor), () -> model.setFloor(bank, floor));
        } else if (kind < 8) {
            int bound = random.nextInt(4) == 0 ? value(0, 1000000) : amount(1000001) - 1;
            same("setBound " + bank + " " + other + " " + bound,
                    () -> hub.setBound(bank, other, bound), () -> model.setBound(bank, other, bound));
        } else {
            int papers = random.nextInt(3) != 0 ? value(1, 1000) : 1 + random.nextInt(5);
            same("givePapers " + bank + " " + papers,
                    () -> hub.givePapers(bank, papers), () -> model.givePapers(bank, papers));
        }
    }

    private void runStep(int kind) {
        if (kind < 6) {
            same("run", hub::run, model::run);
        } else if (kind < 7) {
            int small = random.nextInt(4) == 0 ? value(0, 100000) : amount(100000);
            same("setSmall " + small, () -> hub.setSmall(small), () -> model.setSmall(small));
        } else {
            same("canAny", () -> hub.canAny() ? 1 : 0, () -> model.canAny() ? 1 : 0);
        }
    }

    private void loanStep(int kind) {
        if (kind < 1) {
            same("morning", hub::morning, model::morning);
        } else if (kind < 3) {
            int price = value(1, 1000);
            int cut = value(0, 1000);
            same("setPrice " + price + " " + cut, () -> {
                hub.setPrice(price, cut);
                return 0;
            }, () -> model.setPrice(price, cut));
        } else {
            int lender = bank();
            int borrower = bank();
            int amount = amount(100000);
            int rate = value(0, 200);
            int papers = random.nextInt(4) == 0 ? value(0, 1000) : random.nextInt(9);
            same("lend " + lender + " " + borrower + " " + amount + " " + rate + " " + papers,
                    () -> hub.lend(lender, borrower, amount, rate, papers),
                    () -> model.lend(lender, borrower, amount, rate, papers));
        }
    }

    private void ask() {
        int bank = bank();
        int other = bank();
        switch (random.nextInt(8)) {
            case 0: askBank(bank); break;
            case 1: same("paid", () -> hub.paid(bank, other), () -> model.paid(bank, other)); break;
            case 2: askQueue(bank, random.nextInt(8) - 1); break;
            case 3: askQueue(bank, value(0, 60)); break;
            case 4: same("loans", hub::loans, model::loans); break;
            case 5: same("sold", hub::sold, model::sold); break;
            default: askWhy(random.nextInt(20) == 0 ? value(0, 59) : random.nextInt(30)); break;
        }
    }

    private void askBank(int bank) {
        same("account " + bank, () -> hub.account(bank), () -> model.account(bank));
        same("papers " + bank, () -> hub.papers(bank), () -> model.papers(bank));
        same("isOpen " + bank, () -> hub.isOpen(bank) ? 1 : 0, () -> model.isOpen(bank) ? 1 : 0);
    }

    private void askQueue(int bank, int place) {
        same("queued " + bank + " " + place, () -> hub.queued(bank, place), () -> model.queued(bank, place));
    }

    private void askWhy(int payment) {
        same("why " + payment, () -> hub.why(payment), () -> model.why(payment));
    }

    private void askAll() {
        for (int bank = -1; bank <= 5; bank++) {
            int one = bank;
            askBank(one);
            for (int i = 0; i <= 5; i++) {
                int other = i;
                same("paid " + one + " " + other, () -> hub.paid(one, other), () -> model.paid(one, other));
                askQueue(one, other - 1);
            }
        }
        for (int payment = -1; payment <= 60; payment++) {
            askWhy(payment);
        }
        same("loans", hub::loans, model::loans);
        same("sold", hub::sold, model::sold);
    }
}
