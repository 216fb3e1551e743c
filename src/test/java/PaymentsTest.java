/** Promises 10 to 12 and 14 to 16: the calls about payments, but for running the queues. */
final class PaymentsTest {
    private PaymentsTest() {
    }

    static void all() {
        promise10Pay();
        promise10WrongPay();
        promise10SixtyPayments();
        promise11Drop();
        promise12SetSmall();
        promise14Queued();
        promise15Why();
        promise15WhyOver();
        promise16CanAny();
        promise16CanAnyBehindTheFirsts();
        promise16CanAnyUnderBounds();
        promise16ElevenWait();
        promise16SixtyPayments();
    }

    private static void promise10Pay() {
        Queuefloat hub = new Queuefloat();
        Check.due("the first payment", 0, hub.pay(0, 1, 1, 0));
        Check.due("the next payment", 1, hub.pay(4, 3, 100000, 2));
        Check.due("a payment waits", 1, hub.queued(4, 0));
        Check.due("nothing goes by entering", 0, hub.account(3));
        Check.due("the payment waits at the sender", Queuefloat.NONE, hub.queued(1, 0));
        hub.drop(0);
        Check.due("numbers are not used again", 2, hub.pay(0, 1, 1, 1));
    }

    private static void promise10WrongPay() {
        Queuefloat hub = BanksTest.withBank1Closed();
        for (int bank : new int[] {-1, 5, Integer.MIN_VALUE, Integer.MAX_VALUE}) {
            Check.index("pay from " + bank, () -> hub.pay(bank, 0, 1, 0));
            Check.index("pay to " + bank, () -> hub.pay(0, bank, 1, 0));
            Check.index("pay of none to none", () -> hub.pay(bank, bank, 0, 3));
            Check.index("no bank and a closed one", () -> hub.pay(1, bank, 1, 0));
        }
        Check.argument("pay to itself", () -> hub.pay(2, 2, 1, 0));
        for (int amount : new int[] {0, -1, 100001, Integer.MIN_VALUE, Integer.MAX_VALUE}) {
            Check.argument("pay " + amount, () -> hub.pay(0, 2, amount, 0));
        }
        for (int priority : new int[] {-1, 3, Integer.MIN_VALUE, Integer.MAX_VALUE}) {
            Check.argument("pay with priority " + priority, () -> hub.pay(0, 2, 1, priority));
        }
        Check.argument("a closed bank to itself", () -> hub.pay(1, 1, 1, 0));
        Check.argument("no amount to a closed bank", () -> hub.pay(0, 1, 0, 0));
        Check.argument("no priority to a closed bank", () -> hub.pay(0, 1, 1, 3));
        Check.state("pay from a closed bank", () -> hub.pay(1, 0, 1, 0));
        Check.state("pay to a closed bank", () -> hub.pay(0, 1, 1, 0));
        Check.due("a refused payment takes no number", 1, hub.pay(0, 2, 1, 0));
    }

    private static void promise10SixtyPayments() {
        Queuefloat hub = new Queuefloat();
        for (int i = 0; i < 60; i++) {
            Check.due("payment", i, hub.pay(i % 5, (i + 1) % 5, 1, i % 3));
        }
        Check.state("payment 61", () -> hub.pay(0, 1, 1, 0));
        Check.argument("payment 61 to itself", () -> hub.pay(0, 0, 1, 0));
        Check.due("why of the last", Queuefloat.SHORT, hub.why(59));
        Check.index("why past the last", () -> hub.why(60));
        Check.due("drop with sixty", 59, hub.drop(59));
        Check.state("a drop makes no room", () -> hub.pay(0, 1, 1, 0));
        Check.due("all that wait go in rings", 59, hub.run() + countWaiting(hub));
        Check.state("going makes no room", () -> hub.pay(0, 1, 1, 0));
    }

    private static int countWaiting(Queuefloat hub) {
        int count = 0;
        for (int payment = 0; payment < 60; payment++) {
            count += hub.why(payment) == Queuefloat.GONE ? 0 : 1;
        }
        return count;
    }

    private static void promise11Drop() {
        Queuefloat hub = new Queuefloat();
        Check.index("drop with no payments", () -> hub.drop(0));
        hub.pay(0, 1, 5, 0);
        hub.pay(2, 1, 5, 0);
        hub.pay(2, 3, 5, 0);
        for (int payment : new int[] {-1, 3, 60, Integer.MIN_VALUE, Integer.MAX_VALUE}) {
            Check.index("drop " + payment, () -> hub.drop(payment));
        }
        Check.due("how many wait behind a drop", 2, hub.drop(1));
        Check.state("drop of a dropped one", () -> hub.drop(1));
        Check.due("why of a dropped one", Queuefloat.GONE, hub.why(1));
        Check.due("the queue behind a drop", 2, hub.queued(2, 0));
        hub.fund(0, 5);
        hub.run();
        Check.state("drop of one that went", () -> hub.drop(0));
        Check.due("drop of the last", 0, hub.drop(2));
        hub.fund(2, 100);
        Check.due("a dropped one never goes", 0, hub.run());
    }

    private static void promise12SetSmall() {
        Queuefloat hub = new Queuefloat();
        Check.due("small bound at first", 100, hub.setSmall(0));
        Check.due("small bound before", 0, hub.setSmall(100000));
        for (int bound : new int[] {-1, 100001, Integer.MIN_VALUE, Integer.MAX_VALUE}) {
            Check.argument("setSmall " + bound, () -> hub.setSmall(bound));
        }
        Check.due("a refused small bound changes nothing", 100000, hub.setSmall(7));
        Check.due("small bound before", 7, hub.setSmall(7));
    }

    private static void promise14Queued() {
        Queuefloat hub = new Queuefloat();
        int[] priorities = {0, 2, 1, 0, 2, 1};
        for (int priority : priorities) {
            hub.pay(3, 0, 9, priority);
        }
        hub.pay(2, 0, 9, 2);
        int[] order = {1, 4, 2, 5, 0, 3};
        for (int place = 0; place < order.length; place++) {
            Check.due("queued at " + place, order[place], hub.queued(3, place));
        }
        Check.due("queued past the end", Queuefloat.NONE, hub.queued(3, 6));
        Check.due("queued far past the end", Queuefloat.NONE, hub.queued(3, Integer.MAX_VALUE));
        Check.due("queued of another", 6, hub.queued(2, 0));
        Check.due("queued of the receiver", Queuefloat.NONE, hub.queued(0, 0));
        hub.drop(4);
        Check.due("queued behind a drop", 2, hub.queued(3, 1));
        for (int bank : new int[] {-1, 5, Integer.MIN_VALUE, Integer.MAX_VALUE}) {
            Check.index("queued of " + bank, () -> hub.queued(bank, 0));
        }
        Check.index("queued at -1", () -> hub.queued(3, -1));
        Check.index("queued at the least", () -> hub.queued(3, Integer.MIN_VALUE));
    }

    private static void promise15Why() {
        Queuefloat hub = new Queuefloat();
        hub.fund(0, 100);
        hub.pay(0, 1, 101, 2);
        hub.pay(0, 1, 100, 0);
        Check.due("why of one too large", Queuefloat.SHORT, hub.why(0));
        Check.due("why of one behind it, by itself", Queuefloat.FREE, hub.why(1));
        hub.setFloor(0, -1);
        Check.due("why down to the floor", Queuefloat.FREE, hub.why(0));
        for (int payment : new int[] {-1, 2, 60, Integer.MIN_VALUE, Integer.MAX_VALUE}) {
            Check.index("why " + payment, () -> hub.why(payment));
        }
        hub.drop(1);
        Check.due("why of a dropped one", Queuefloat.GONE, hub.why(1));
        hub.run();
        Check.due("why of one that went", Queuefloat.GONE, hub.why(0));
    }

    private static void promise15WhyOver() {
        Queuefloat hub = new Queuefloat();
        hub.fund(0, 100);
        hub.pay(0, 1, 50, 0);
        hub.setBound(0, 1, 50);
        Check.due("why at the bound", Queuefloat.FREE, hub.why(0));
        hub.setBound(0, 1, 49);
        Check.due("why over the bound", Queuefloat.OVER, hub.why(0));
        hub.pay(0, 1, 101, 0);
        Check.due("SHORT ahead of OVER", Queuefloat.SHORT, hub.why(1));
        hub.setBound(1, 0, 0);
        hub.pay(0, 2, 50, 0);
        Check.due("a bound is for one pair and one way", Queuefloat.FREE, hub.why(2));
        hub.fund(1, 10);
        hub.setBound(1, 0, 10);
        hub.pay(1, 0, 10, 0);
        hub.run();
        Check.due("what came back makes room", Queuefloat.GONE, hub.why(0));
    }

    private static void promise16CanAny() {
        Queuefloat hub = new Queuefloat();
        Check.due("canAny of nothing", false, hub.canAny());
        hub.pay(0, 1, 10, 0);
        Check.due("canAny of one that is short", false, hub.canAny());
        hub.fund(0, 10);
        Check.due("canAny of one that is free", true, hub.canAny());
        hub.run();
        Check.due("canAny where all have gone", false, hub.canAny());
        hub.pay(1, 0, 10, 0);
        hub.run();
        hub.pay(0, 3, 10, 0);
        hub.run();
        hub.pay(0, 1, 10, 0);
        hub.pay(1, 2, 10, 0);
        Check.due("canAny of two that are short", false, hub.canAny());
        hub.pay(2, 0, 11, 0);
        Check.due("canAny of a ring that lacks one", false, hub.canAny());
        hub.setFloor(2, -1);
        Check.due("canAny of a ring", true, hub.canAny());
        Check.due("canAny changes nothing", 0, hub.account(0));
        Check.due("canAny changes nothing", 3, hub.queued(0, 0));
        Check.due("canAny changes nothing", 0, hub.paid(0, 1));
        hub.drop(4);
        Check.due("canAny leaves out dropped ones", false, hub.canAny());
    }

    private static void promise16SixtyPayments() {
        Queuefloat hub = new Queuefloat();
        for (int payment = 0; payment < 60; payment++) {
            hub.pay(0, 1, 2, 0);
        }
        for (int payment = 0; payment < 50; payment++) {
            Check.state("canAny while more than ten wait", () -> hub.canAny() ? 1 : 0);
            hub.drop(payment);
        }
        Check.due("canAny of the last ten", false, hub.canAny());
        hub.fund(0, 2);
        Check.due("canAny of one of the last ten", true, hub.canAny());
        Check.due("run at the last ten", 1, hub.run());
        Check.due("canAny of the last nine", false, hub.canAny());
        Check.due("the last one waits", 59, hub.queued(0, 8));
        Check.due("no one behind it", Queuefloat.NONE, hub.queued(0, 9));
    }

    private static void promise16CanAnyBehindTheFirsts() {
        Queuefloat hub = new Queuefloat();
        hub.setSmall(0);
        hub.fund(0, 5);
        hub.pay(0, 1, 6, 2);
        hub.pay(0, 1, 4, 0);
        Check.due("run goes by the firsts", 0, hub.run());
        Check.due("canAny takes whichever", true, hub.canAny());
        hub.drop(1);
        hub.pay(0, 2, 7, 0);
        hub.pay(0, 3, 3, 0);
        hub.pay(3, 0, 8, 0);
        hub.pay(3, 4, 50, 2);
        Check.due("canAny with one of the queue alone", true, hub.canAny());
        hub.drop(3);
        Check.due("canAny of none that can", false, hub.canAny());
        hub.pay(1, 0, 1, 0);
        Check.due("canAny of two", true, hub.canAny());
    }

    private static void promise16CanAnyUnderBounds() {
        Queuefloat hub = new Queuefloat();
        hub.fund(0, 100);
        hub.setBound(0, 1, 4);
        hub.pay(0, 1, 5, 0);
        Check.due("canAny over the bound", false, hub.canAny());
        hub.pay(1, 0, 6, 0);
        Check.due("canAny of two that are short and over", false, hub.canAny());
        hub.pay(1, 0, 1, 0);
        Check.due("canAny of two that help each other", true, hub.canAny());
        hub.setBound(0, 1, 3);
        Check.due("canAny over the bound by one", false, hub.canAny());
    }

    private static void promise16ElevenWait() {
        Queuefloat hub = new Queuefloat();
        for (int i = 0; i < 9; i++) {
            hub.pay(0, 1, 100 + i, 0);
        }
        hub.fund(1, 3);
        hub.pay(1, 0, 4, 0);
        Check.due("canAny of ten", false, hub.canAny());
        hub.pay(1, 0, 3, 0);
        Check.state("canAny of eleven", () -> hub.canAny() ? 1 : 0);
        hub.drop(3);
        Check.due("canAny of ten of eleven", true, hub.canAny());
    }
}
