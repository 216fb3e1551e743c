/** The boundary cases of promise 13: running the queues. */
final class RunEdges {
    private RunEdges() {
    }

    static void all() {
        noneCanGo();
        sixtyGo();
        oneByOneAtTheFloor();
        oneByOneAtTheBound();
        pastTheFirst();
        smallOnesAreNotThere();
        theFirstOtherSmallOne();
        onlyOneGoesPastInARound();
        closedBanksTakeNoPart();
        setsOfEachSize();
        setsLeaveOutBanksWithoutPayments();
        setsAtTheFloor();
        setsAtTheBound();
        setsAtTheTopBound();
        setsComeBehindTheOthers();
        sixtyInSets();
    }

    private static Queuefloat oneShort() {
        Queuefloat hub = new Queuefloat();
        hub.fund(4, 99);
        hub.pay(4, 0, 100, 0);
        return hub;
    }

    private static Queuefloat oneOver() {
        Queuefloat hub = new Queuefloat();
        hub.fund(4, 100);
        hub.setBound(4, 0, 99);
        hub.pay(4, 0, 100, 0);
        return hub;
    }

    private static Queuefloat allGone() {
        Queuefloat hub = oneShort();
        hub.fund(4, 1);
        hub.run();
        return hub;
    }

    private static Queuefloat allDropped() {
        Queuefloat hub = oneShort();
        hub.fund(4, 1);
        hub.drop(0);
        return hub;
    }

    /** A run that finds nothing to do changes nothing. */
    private static void noneCanGo() {
        Twins.asks("run of empty queues", 0, Queuefloat::new, Queuefloat::run);
        Twins.asks("run of one that is short", 0, RunEdges::oneShort, Queuefloat::run);
        Twins.asks("run of one that is over", 0, RunEdges::oneOver, Queuefloat::run);
        Twins.asks("run where all went", 0, RunEdges::allGone, Queuefloat::run);
        Twins.asks("run where all are dropped", 0, RunEdges::allDropped, Queuefloat::run);
    }

    private static void sixtyGo() {
        for (int sender : new int[] {0, 4}) {
            Queuefloat hub = new Queuefloat();
            for (int payment = 0; payment < 60; payment++) {
                hub.pay(sender, 2, 1 + payment, payment % 3);
            }
            hub.fund(sender, 60 * 61 / 2);
            Check.due("run of sixty", 60, hub.run());
            Check.due("run of sixty", 60 * 61 / 2, hub.account(2));
            Check.due("run of sixty", 0, hub.account(sender));
            Check.due("run again", 0, hub.run());
        }
    }

    private static void oneByOneAtTheFloor() {
        Check.due("down to 0", 0, allGone().account(4));
        Check.due("down to 0", 100, allGone().account(0));
        Queuefloat hub = oneShort();
        hub.setFloor(4, -1);
        Check.due("down to the floor", 1, hub.run());
        Check.due("down to the floor", -1, hub.account(4));
        Check.due("down to the floor", 100, hub.account(0));
    }

    private static void oneByOneAtTheBound() {
        Queuefloat hub = oneOver();
        hub.setBound(4, 0, 100);
        Check.due("up to the bound", 1, hub.run());
        Check.due("up to the bound", 100, hub.paid(4, 0));
        hub.fund(4, 1);
        hub.pay(4, 0, 1, 2);
        Check.due("over the bound", 0, hub.run());
        hub.setBound(4, 0, 101);
        Check.due("up to the bound again", 1, hub.run());
    }

    /** The first can go, though it is not small: the bound is for those that go past. */
    private static void pastTheFirst() {
        Queuefloat hub = new Queuefloat();
        hub.setSmall(0);
        hub.fund(1, 100000);
        hub.pay(1, 0, 100000, 0);
        Check.due("a first one need not be small", 1, hub.run());
        Check.due("a first one need not be small", 100000, hub.account(0));
    }

    private static void smallOnesAreNotThere() {
        Queuefloat hub = new Queuefloat();
        hub.setSmall(10);
        hub.fund(1, 20);
        hub.setBound(1, 3, 8);
        hub.pay(1, 0, 100, 2);
        hub.pay(1, 2, 11, 1);
        hub.pay(1, 3, 9, 0);
        Check.due("one not small, one over", 0, hub.run());
        hub.setBound(1, 3, 9);
        Check.due("now one can", 1, hub.run());
        Check.due("now one can", 9, hub.account(3));
        hub.setSmall(11);
        Check.due("now the other is small", 1, hub.run());
        Check.due("now the other is small", 11, hub.account(2));
        Check.due("the first stays", 0, hub.queued(1, 0));
    }

    private static void theFirstOtherSmallOne() {
        Queuefloat hub = new Queuefloat();
        hub.fund(1, 50);
        hub.pay(1, 0, 60, 1);
        hub.pay(1, 2, 51, 1);
        hub.pay(1, 3, 50, 0);
        hub.pay(1, 4, 1, 0);
        Check.due("the first one that can", 1, hub.run());
        Check.due("the first one that can", 50, hub.account(3));
        Check.due("the one behind it", Queuefloat.SHORT, hub.why(3));
    }

    /**
     * Bank 1 sends its 10 to bank 0 between the two that go past of bank 0: only so can the first
     * of bank 0 go ahead of its third one.
     */
    private static void onlyOneGoesPastInARound() {
        Queuefloat hub = new Queuefloat();
        hub.fund(0, 20);
        hub.pay(0, 2, 21, 2);
        hub.pay(0, 3, 9, 1);
        hub.pay(0, 4, 11, 0);
        hub.pay(1, 0, 10, 0);
        hub.fund(1, 10);
        Check.due("one goes past in a round", 3, hub.run());
        Check.due("then the first goes", 21, hub.account(2));
        Check.due("the last has to wait", Queuefloat.SHORT, hub.why(2));
    }

    private static void closedBanksTakeNoPart() {
        Queuefloat hub = Twins.busy();
        int before = hub.account(3);
        Check.due("the one that is free", 1, hub.run());
        Check.due("a closed bank in a run", before, hub.account(3));
        Queuefloat poor = new Queuefloat();
        poor.fund(0, 100);
        poor.givePapers(1, 2);
        poor.lend(0, 1, 100, 10, 2);
        poor.pay(1, 2, 50, 0);
        poor.pay(2, 1, 9, 0);
        poor.morning();
        poor.fund(2, 100);
        Check.due("dropped ones do not go", 0, poor.run());
        Check.due("dropped ones do not go", 100, poor.account(2));
        Check.due("dropped ones do not go", 100 + 99, poor.account(1));
    }

    /** Rings of two to five banks, and what each lacks to go. */
    private static void setsOfEachSize() {
        for (int size = 2; size <= 5; size++) {
            for (int start = 0; start < 5; start++) {
                Queuefloat hub = ring(start, size, 100000);
                Check.due("a ring of " + size, size, hub.run());
                Queuefloat lacking = ring(start, size, 99999);
                Check.due("a ring of " + size + " that lacks one", 0, lacking.run());
                lacking.setFloor(start, -1);
                Check.due("a ring of " + size + " with a floor", size, lacking.run());
                Check.due("a ring of " + size + " with a floor", -1, lacking.account(start));
            }
        }
    }

    /** All pay 100000 but the bank that pays the first one. */
    private static Queuefloat ring(int start, int size, int last) {
        Queuefloat hub = new Queuefloat();
        for (int i = 0; i < size; i++) {
            int to = i + 1 < size ? (start + i + 1) % 5 : start;
            hub.pay((start + i) % 5, to, i + 1 < size ? 100000 : last, 0);
        }
        return hub;
    }

    private static void setsLeaveOutBanksWithoutPayments() {
        Queuefloat hub = new Queuefloat();
        hub.setSmall(0);
        hub.fund(2, 5);
        hub.pay(1, 3, 70, 0);
        hub.pay(3, 1, 70, 0);
        Check.due("two of five", 2, hub.run());
        Check.due("two of five", 5, hub.account(2));
        Check.due("two of five", 0, hub.account(1));
    }

    private static void setsAtTheFloor() {
        Queuefloat hub = new Queuefloat();
        hub.setFloor(1, -39);
        hub.fund(3, 10);
        hub.pay(1, 3, 100, 0);
        hub.pay(3, 1, 60, 0);
        Check.due("a set below a floor", 0, hub.run());
        hub.setFloor(1, -40);
        Check.due("a set down to a floor", 2, hub.run());
        Check.due("a set down to a floor", -40, hub.account(1));
        Check.due("a set down to a floor", 50, hub.account(3));
    }

    private static void setsAtTheBound() {
        Queuefloat hub = new Queuefloat();
        hub.fund(1, 99);
        hub.setBound(1, 3, 39);
        hub.setBound(3, 1, 0);
        hub.pay(1, 3, 100, 0);
        hub.pay(3, 1, 60, 0);
        Check.due("a set over a bound", 0, hub.run());
        hub.setBound(1, 3, 40);
        Check.due("a set up to a bound", 2, hub.run());
        Check.due("a set up to a bound", 40, hub.paid(1, 3));
        Check.due("a set up to a bound", -40, hub.paid(3, 1));
    }

    /** Bank 0 is at its bound against bank 1, which has given away what it got. */
    private static Queuefloat atTheTopBound(int there, int back) {
        Queuefloat hub = BankEdges.paidToTheBound();
        for (int i = 0; i < 10; i++) {
            hub.pay(1, 2, 100000, 0);
        }
        hub.run();
        hub.pay(0, 1, there, 0);
        hub.pay(1, 0, back, 0);
        return hub;
    }

    private static void setsAtTheTopBound() {
        Queuefloat hub = atTheTopBound(10, 10);
        Check.due("over alone at the top", Queuefloat.OVER, hub.why(20));
        Check.due("short alone at the top", Queuefloat.SHORT, hub.why(21));
        Check.due("a set up to the top bound", 2, hub.run());
        Check.due("a set up to the top bound", 1000000, hub.paid(0, 1));
        Twins.asks("a set over the top bound", 0, () -> atTheTopBound(11, 10), Queuefloat::run);
        Twins.asks("a set that lacks one", 0, () -> atTheTopBound(10, 11), Queuefloat::run);
    }

    /** The set of 0 and 1 needs the 5 that go past meanwhile. */
    private static void setsComeBehindTheOthers() {
        Queuefloat hub = new Queuefloat();
        hub.fund(0, 5);
        hub.pay(0, 1, 15, 1);
        hub.pay(1, 0, 10, 0);
        hub.pay(0, 3, 5, 0);
        Check.due("the small one goes ahead of the set", 1, hub.run());
        Check.due("the small one goes ahead of the set", 5, hub.account(3));
        Check.due("the set cannot go then", Queuefloat.SHORT, hub.why(0));
        hub.fund(0, 5);
        Check.due("the set goes", 2, hub.run());
        Check.due("the set goes", 5, hub.account(1));
    }

    private static void sixtyInSets() {
        Queuefloat hub = new Queuefloat();
        for (int payment = 0; payment < 60; payment++) {
            hub.pay(payment % 5, (payment + 1) % 5, 1000, 0);
        }
        Check.due("twelve sets of five", 60, hub.run());
        for (int bank = 0; bank < 5; bank++) {
            Check.due("twelve sets of five", 0, hub.account(bank));
            Check.due("twelve sets of five", 12000, hub.paid(bank, (bank + 1) % 5));
            Check.due("twelve sets of five", Queuefloat.NONE, hub.queued(bank, 0));
        }
    }
}
