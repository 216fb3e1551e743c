/** The boundary cases of promises 10 to 12 and 14 to 16: payments, but for running the queues. */
final class PaymentEdges {
    private static final int[] NO_PAYMENTS_OF_BUSY = {-1, 5, 6, 59, 60, Integer.MIN_VALUE, Integer.MAX_VALUE};

    private PaymentEdges() {
    }

    static void all() {
        promise10Banks();
        promise10OneAndTheSame();
        promise10Amount();
        promise10Priority();
        promise10Closed();
        promise10SixtyPayments();
        promise10WhichException();
        promise11NoSuchPayment();
        promise11DoesNotWait();
        promise11HowManyWait();
        promise12Range();
        promise12WhatIsSmall();
        promise14Banks();
        promise14Places();
        promise14EmptyAndFull();
        promise14Order();
        promise15NoSuchPayment();
        promise15Busy();
        promise15Floor();
        promise15Bound();
        promise15ShortAheadOfOver();
        promise15Gone();
        promise16EmptyAndFull();
        promise16MoreThanTen();
        promise16OneOfTen();
        promise16AllTen();
        promise16AtTheFloor();
        promise16AtTheBound();
    }

    /** Sixty payments of 1 wait with bank 4, which has nothing; the last has the highest priority. */
    private static Queuefloat sixty() {
        Queuefloat hub = new Queuefloat();
        for (int payment = 0; payment < 60; payment++) {
            hub.pay(4, 0, 1, payment < 59 ? 1 : 2);
        }
        return hub;
    }

    private static Queuefloat fiftyNine() {
        Queuefloat hub = new Queuefloat();
        for (int payment = 0; payment < 59; payment++) {
            hub.pay(4, 0, 1, 1);
        }
        return hub;
    }

    /** All sixty went. */
    private static Queuefloat sixtyGone() {
        Queuefloat hub = sixty();
        hub.fund(4, 60);
        hub.run();
        return hub;
    }

    private static Queuefloat sixtyDropped() {
        Queuefloat hub = sixty();
        for (int payment = 0; payment < 60; payment++) {
            hub.drop(payment);
        }
        return hub;
    }

    /** Payments 0 and 1, from bank 1 and to it, were dropped when it was closed; 2 waits. */
    private static Queuefloat droppedByClosing() {
        Queuefloat hub = new Queuefloat();
        hub.fund(0, 100);
        hub.givePapers(1, 2);
        hub.lend(0, 1, 100, 10, 2);
        hub.pay(1, 2, 9000, 0);
        hub.pay(2, 1, 9000, 0);
        hub.pay(2, 3, 9000, 0);
        hub.morning();
        return hub;
    }

    private static void promise10Banks() {
        for (int bank : Twins.NO_BANKS) {
            Twins.index("pay from " + bank, Twins::busy, hub -> hub.pay(bank, 0, 1, 0));
            Twins.index("pay to " + bank, Twins::busy, hub -> hub.pay(0, bank, 1, 0));
            Twins.index("pay of none to the same none " + bank, Twins::busy, hub -> hub.pay(bank, bank, 1, 0));
        }
        Twins.answers("pay of the first to the last", 0, Queuefloat::new, hub -> hub.pay(0, 4, 1, 0));
        Twins.answers("pay of the last to the first", 5, Twins::busy, hub -> hub.pay(4, 0, 1, 0));
    }

    private static void promise10OneAndTheSame() {
        for (int i = 0; i < 5; i++) {
            int bank = i;
            Twins.argument("pay to itself " + bank, Twins::busy, hub -> hub.pay(bank, bank, 1, 0));
        }
    }

    private static void promise10Amount() {
        for (int amount : new int[] {0, -1, 100001, Integer.MIN_VALUE, Integer.MAX_VALUE}) {
            Twins.argument("pay " + amount, Twins::busy, hub -> hub.pay(0, 1, amount, 0));
        }
        Queuefloat hub = new Queuefloat();
        hub.fund(0, 100001);
        Check.due("pay the least", 0, hub.pay(0, 1, 1, 0));
        Check.due("pay the most", 1, hub.pay(0, 1, 100000, 0));
        Check.due("the least and the most go", 2, hub.run());
        Check.due("the least and the most go", 100001, hub.account(1));
    }

    private static void promise10Priority() {
        for (int priority : new int[] {-1, 3, Integer.MIN_VALUE, Integer.MAX_VALUE}) {
            Twins.argument("pay with priority " + priority, Twins::busy, hub -> hub.pay(0, 1, 1, priority));
        }
        for (int i = 0; i <= 2; i++) {
            int priority = i;
            Twins.answers("pay with priority " + priority, 5, Twins::busy, hub -> hub.pay(0, 1, 1, priority));
        }
    }

    private static void promise10Closed() {
        Twins.state("pay from a closed bank", Twins::busy, hub -> hub.pay(3, 0, 1, 0));
        Twins.state("pay to a closed bank", Twins::busy, hub -> hub.pay(0, 3, 1, 0));
    }

    private static void promise10SixtyPayments() {
        Twins.answers("the sixtieth", 59, PaymentEdges::fiftyNine, hub -> hub.pay(0, 1, 1, 0));
        Twins.state("the 61st while sixty wait", PaymentEdges::sixty, hub -> hub.pay(0, 1, 1, 0));
        Twins.state("the 61st where sixty went", PaymentEdges::sixtyGone, hub -> hub.pay(0, 1, 1, 0));
        Twins.state("the 61st where sixty are dropped", PaymentEdges::sixtyDropped, hub -> hub.pay(0, 1, 1, 0));
        Twins.asks("the sixtieth waits", 59, PaymentEdges::sixty, hub -> hub.queued(4, 0));
    }

    private static void promise10WhichException() {
        for (int bank : new int[] {-1, 5}) {
            Twins.index("pay nothing to none", Twins::busy, hub -> hub.pay(0, bank, 0, 0));
            Twins.index("pay too much from none", Twins::busy, hub -> hub.pay(bank, 0, 100001, 0));
            Twins.index("pay without priority to none", Twins::busy, hub -> hub.pay(0, bank, 1, -1));
            Twins.index("pay with too high a priority from none", Twins::busy, hub -> hub.pay(bank, 0, 1, 3));
            Twins.index("pay of a closed bank to none", Twins::busy, hub -> hub.pay(3, bank, 1, 0));
            Twins.index("pay of none to a closed bank", Twins::busy, hub -> hub.pay(bank, 3, 1, 0));
            Twins.index("the 61st of none", PaymentEdges::sixty, hub -> hub.pay(bank, 0, 1, 0));
            Twins.index("the 61st to none", PaymentEdges::sixty, hub -> hub.pay(0, bank, 1, 0));
        }
        Twins.argument("a closed bank to itself", Twins::busy, hub -> hub.pay(3, 3, 1, 0));
        Twins.argument("nothing of a closed bank", Twins::busy, hub -> hub.pay(3, 0, 0, 0));
        Twins.argument("too much to a closed bank", Twins::busy, hub -> hub.pay(0, 3, 100001, 0));
        Twins.argument("no priority of a closed bank", Twins::busy, hub -> hub.pay(3, 0, 1, -1));
        Twins.argument("too high a priority to a closed bank", Twins::busy, hub -> hub.pay(0, 3, 1, 3));
        Twins.argument("the 61st to itself", PaymentEdges::sixty, hub -> hub.pay(1, 1, 1, 0));
        Twins.argument("the 61st of nothing", PaymentEdges::sixty, hub -> hub.pay(0, 1, 0, 0));
        Twins.argument("the 61st of too much", PaymentEdges::sixty, hub -> hub.pay(0, 1, 100001, 0));
        Twins.argument("the 61st without priority", PaymentEdges::sixty, hub -> hub.pay(0, 1, 1, -1));
        Twins.argument("the 61st with too high a priority", PaymentEdges::sixty, hub -> hub.pay(0, 1, 1, 3));
    }

    private static void promise11NoSuchPayment() {
        for (int payment : new int[] {0, -1, 1, 59, 60, Integer.MIN_VALUE, Integer.MAX_VALUE}) {
            Twins.index("drop in a new hub " + payment, Queuefloat::new, hub -> hub.drop(payment));
        }
        for (int payment : NO_PAYMENTS_OF_BUSY) {
            Twins.index("drop " + payment, Twins::busy, hub -> hub.drop(payment));
        }
        for (int payment : new int[] {-1, 60, 61, Integer.MIN_VALUE, Integer.MAX_VALUE}) {
            Twins.index("drop with sixty " + payment, PaymentEdges::sixty, hub -> hub.drop(payment));
        }
    }

    private static void promise11DoesNotWait() {
        Twins.state("drop one that went", Twins::busy, hub -> hub.drop(0));
        Twins.state("drop one that was dropped", Twins::busy, hub -> hub.drop(4));
        Twins.state("drop one that was dropped with its sender", PaymentEdges::droppedByClosing, hub -> hub.drop(0));
        Twins.state("drop one that was dropped with its receiver", PaymentEdges::droppedByClosing, hub -> hub.drop(1));
        Twins.state("drop the last that went", PaymentEdges::sixtyGone, hub -> hub.drop(59));
        Twins.state("drop the last again", PaymentEdges::sixtyDropped, hub -> hub.drop(59));
    }

    private static void promise11HowManyWait() {
        Twins.answers("drop the first that waits", 2, Twins::busy, hub -> hub.drop(1));
        Twins.answers("drop the last that waits", 2, Twins::busy, hub -> hub.drop(3));
        Twins.answers("drop the only one", 0, PaymentEdges::droppedByClosing, hub -> hub.drop(2));
        Twins.answers("drop the first of sixty", 59, PaymentEdges::sixty, hub -> hub.drop(0));
        Twins.answers("drop the last of sixty", 59, PaymentEdges::sixty, hub -> hub.drop(59));
        Queuefloat hub = sixty();
        for (int payment = 59; payment >= 0; payment--) {
            Check.due("wait behind a drop", payment, hub.drop(payment));
        }
        Check.due("no one waits", Queuefloat.NONE, hub.queued(4, 0));
    }

    private static void promise12Range() {
        for (int bound : new int[] {-1, 100001, Integer.MIN_VALUE, Integer.MAX_VALUE}) {
            Twins.argument("setSmall " + bound, Twins::busy, hub -> hub.setSmall(bound));
        }
        Queuefloat hub = Twins.busy();
        Check.due("setSmall to the least", 30, hub.setSmall(0));
        Check.due("setSmall to the most", 0, hub.setSmall(100000));
        Check.due("setSmall to the most again", 100000, hub.setSmall(100000));
    }

    /** Bank 0 has as much as the payment behind its first one, which is too large. */
    private static long goPast(Queuefloat hub, int amount) {
        hub.fund(0, amount);
        hub.pay(0, 1, 100000, 2);
        hub.pay(0, 2, amount, 0);
        return hub.run();
    }

    private static long goPast(Queuefloat hub, int bound, int amount) {
        hub.setSmall(bound);
        return goPast(hub, amount);
    }

    private static void promise12WhatIsSmall() {
        Twins.answers("100 is small at first", 1, Queuefloat::new, hub -> goPast(hub, 100));
        Twins.answers("101 is not small at first", 0, Queuefloat::new, hub -> goPast(hub, 101));
        Twins.answers("nothing is small", 0, Queuefloat::new, hub -> goPast(hub, 0, 1));
        Twins.answers("1 is small", 1, Queuefloat::new, hub -> goPast(hub, 1, 1));
        Twins.answers("2 is not small", 0, Queuefloat::new, hub -> goPast(hub, 1, 2));
        Twins.answers("99999 is small", 1, Queuefloat::new, hub -> goPast(hub, 100000, 99999));
        Twins.answers("99999 is not small", 0, Queuefloat::new, hub -> goPast(hub, 99998, 99999));
        Queuefloat most = new Queuefloat();
        most.setSmall(100000);
        most.fund(0, 100000);
        most.setBound(0, 1, 0);
        most.pay(0, 1, 1, 2);
        most.pay(0, 2, 100000, 0);
        Check.due("the most is small", 1, most.run());
        Queuefloat less = new Queuefloat();
        less.setSmall(99999);
        less.fund(0, 100000);
        less.setBound(0, 1, 0);
        less.pay(0, 1, 1, 2);
        less.pay(0, 2, 100000, 0);
        Check.due("the most is not small", 0, less.run());
    }

    private static void promise14Banks() {
        for (int bank : Twins.NO_BANKS) {
            Twins.index("queued of " + bank, Twins::busy, hub -> hub.queued(bank, 0));
            Twins.index("queued of none at none " + bank, Twins::busy, hub -> hub.queued(bank, -1));
        }
        Twins.asks("queued of the first", 1, Twins::busy, hub -> hub.queued(0, 0));
        Twins.asks("queued of the last", 58, PaymentEdges::sixty, hub -> hub.queued(4, 59));
    }

    private static void promise14Places() {
        for (int place : new int[] {-1, -2, Integer.MIN_VALUE}) {
            Twins.index("queued at " + place, Twins::busy, hub -> hub.queued(0, place));
            Twins.index("queued of a closed bank at " + place, Twins::busy, hub -> hub.queued(3, place));
            Twins.index("queued of an empty queue at " + place, Queuefloat::new, hub -> hub.queued(4, place));
        }
        Twins.asks("queued at the last place", 2, Twins::busy, hub -> hub.queued(0, 1));
        for (int place : new int[] {2, 3, 60, Integer.MAX_VALUE}) {
            Twins.asks("queued past the last at " + place, Queuefloat.NONE, Twins::busy, hub -> hub.queued(0, place));
        }
    }

    private static void promise14EmptyAndFull() {
        for (int i = 0; i < 5; i++) {
            int bank = i;
            Twins.asks("queued of an empty queue", Queuefloat.NONE, Queuefloat::new, hub -> hub.queued(bank, 0));
            Twins.asks("queued where all went", Queuefloat.NONE, PaymentEdges::sixtyGone, hub -> hub.queued(bank, 0));
            Twins.asks("queued where all are dropped", Queuefloat.NONE, PaymentEdges::sixtyDropped,
                    hub -> hub.queued(bank, 0));
        }
        Twins.asks("queued of a closed bank", Queuefloat.NONE, Twins::busy, hub -> hub.queued(3, 0));
        Twins.asks("queued where it was dropped", Queuefloat.NONE, Twins::busy, hub -> hub.queued(1, 0));
        Queuefloat hub = sixty();
        Check.due("queued first of sixty", 59, hub.queued(4, 0));
        for (int place = 1; place < 60; place++) {
            Check.due("queued of sixty at " + place, place - 1, hub.queued(4, place));
        }
        Check.due("queued past sixty", Queuefloat.NONE, hub.queued(4, 60));
        Check.due("queued far past sixty", Queuefloat.NONE, hub.queued(4, Integer.MAX_VALUE));
    }

    private static void promise14Order() {
        Queuefloat hub = new Queuefloat();
        for (int payment = 0; payment < 60; payment++) {
            hub.pay(2, 3, 5, payment % 3);
        }
        for (int place = 0; place < 60; place++) {
            Check.due("by priority and number at " + place, place % 20 * 3 + 2 - place / 20, hub.queued(2, place));
        }
        hub.drop(2);
        hub.drop(0);
        hub.drop(58);
        Check.due("the first is dropped", 5, hub.queued(2, 0));
        Check.due("the last place then", 57, hub.queued(2, 56));
        Check.due("past the last place then", Queuefloat.NONE, hub.queued(2, 57));
    }

    private static void promise15NoSuchPayment() {
        for (int payment : new int[] {0, -1, 59, 60, Integer.MIN_VALUE, Integer.MAX_VALUE}) {
            Twins.index("why in a new hub " + payment, Queuefloat::new, hub -> hub.why(payment));
        }
        for (int payment : NO_PAYMENTS_OF_BUSY) {
            Twins.index("why " + payment, Twins::busy, hub -> hub.why(payment));
        }
        for (int payment : new int[] {-1, 60, 61, Integer.MIN_VALUE, Integer.MAX_VALUE}) {
            Twins.index("why with sixty " + payment, PaymentEdges::sixty, hub -> hub.why(payment));
        }
        Twins.asks("why the first of sixty", Queuefloat.SHORT, PaymentEdges::sixty, hub -> hub.why(0));
        Twins.asks("why the last of sixty", Queuefloat.SHORT, PaymentEdges::sixty, hub -> hub.why(59));
    }

    private static void promise15Busy() {
        int[] reasons = {Queuefloat.GONE, Queuefloat.OVER, Queuefloat.FREE, Queuefloat.SHORT, Queuefloat.GONE};
        for (int i = 0; i < reasons.length; i++) {
            int payment = i;
            Twins.asks("why " + payment, reasons[payment], Twins::busy, hub -> hub.why(payment));
        }
    }

    private static int whyAtFloor(int cents, int floor, int amount) {
        Queuefloat hub = new Queuefloat();
        if (cents > 0) {
            hub.fund(0, cents);
        }
        hub.setFloor(0, floor);
        return hub.why(hub.pay(0, 1, amount, 0));
    }

    private static void promise15Floor() {
        Check.due("down to 0", Queuefloat.FREE, whyAtFloor(70, 0, 70));
        Check.due("below 0", Queuefloat.SHORT, whyAtFloor(70, 0, 71));
        Check.due("down to the floor", Queuefloat.FREE, whyAtFloor(70, -30, 100));
        Check.due("below the floor", Queuefloat.SHORT, whyAtFloor(70, -30, 101));
        Check.due("from 0 to the floor", Queuefloat.FREE, whyAtFloor(0, -100000, 100000));
        Check.due("from 0 below the floor", Queuefloat.SHORT, whyAtFloor(0, -99999, 100000));
        Check.due("the least from nothing", Queuefloat.SHORT, whyAtFloor(0, 0, 1));
    }

    private static int whyAtBound(int bound, int amount) {
        Queuefloat hub = new Queuefloat();
        hub.fund(0, 200000);
        hub.setBound(0, 1, bound);
        return hub.why(hub.pay(0, 1, amount, 0));
    }

    private static void promise15Bound() {
        Check.due("up to the bound", Queuefloat.FREE, whyAtBound(70, 70));
        Check.due("over the bound", Queuefloat.OVER, whyAtBound(70, 71));
        Check.due("the least over a bound of 0", Queuefloat.OVER, whyAtBound(0, 1));
        Check.due("the most up to the bound", Queuefloat.FREE, whyAtBound(100000, 100000));
        Check.due("the most over the bound", Queuefloat.OVER, whyAtBound(99999, 100000));
        Queuefloat hub = Twins.busy();
        hub.setBound(1, 0, 0);
        Check.due("what was paid up to the bound", Queuefloat.FREE, hub.why(hub.pay(0, 1, 100, 0)));
        Check.due("what was paid over the bound", Queuefloat.OVER, hub.why(hub.pay(0, 1, 101, 0)));
        Check.due("what was got up to a bound of 0", Queuefloat.FREE, hub.why(hub.pay(1, 0, 500, 0)));
        Check.due("what was got over a bound of 0", Queuefloat.OVER, hub.why(hub.pay(1, 0, 501, 0)));
        hub.morning();
        Check.due("the bound begins anew", Queuefloat.FREE, hub.why(1));
        Check.due("the bound begins anew", Queuefloat.OVER, hub.why(7));
    }

    private static void promise15ShortAheadOfOver() {
        Queuefloat hub = new Queuefloat();
        hub.fund(0, 9);
        hub.setBound(0, 1, 9);
        Check.due("neither", Queuefloat.FREE, hub.why(hub.pay(0, 1, 9, 0)));
        Check.due("SHORT and over", Queuefloat.SHORT, hub.why(hub.pay(0, 1, 10, 0)));
        hub.fund(0, 1);
        Check.due("OVER alone", Queuefloat.OVER, hub.why(1));
        hub.setBound(0, 1, 10);
        Check.due("neither", Queuefloat.FREE, hub.why(1));
    }

    private static void promise15Gone() {
        Twins.asks("why of one dropped with its sender", Queuefloat.GONE, PaymentEdges::droppedByClosing,
                hub -> hub.why(0));
        Twins.asks("why of one dropped with its receiver", Queuefloat.GONE, PaymentEdges::droppedByClosing,
                hub -> hub.why(1));
        Twins.asks("why of another one then", Queuefloat.SHORT, PaymentEdges::droppedByClosing, hub -> hub.why(2));
        Twins.asks("why of the last that went", Queuefloat.GONE, PaymentEdges::sixtyGone, hub -> hub.why(59));
        Twins.asks("why of the last that is dropped", Queuefloat.GONE, PaymentEdges::sixtyDropped, hub -> hub.why(59));
    }

    private static void canAny(String what, boolean want, Twins.Recipe recipe) {
        Twins.asks(what, Twins.truth(want), recipe, hub -> Twins.truth(hub.canAny()));
    }

    private static void promise16EmptyAndFull() {
        canAny("canAny of none", false, Queuefloat::new);
        canAny("canAny where sixty went", false, PaymentEdges::sixtyGone);
        canAny("canAny where sixty are dropped", false, PaymentEdges::sixtyDropped);
        canAny("canAny of one that is free among three", true, Twins::busy);
        canAny("canAny of one that is short", false, PaymentEdges::droppedByClosing);
    }

    /** As many wait as said; of those that were entered first some went and some were dropped. */
    private static Queuefloat waiting(int count) {
        Queuefloat hub = new Queuefloat();
        hub.fund(3, 1);
        hub.pay(3, 2, 1, 0);
        hub.run();
        for (int i = 0; i <= count; i++) {
            hub.pay(1, 2, 2 + i, 0);
        }
        hub.drop(1);
        return hub;
    }

    private static void promise16MoreThanTen() {
        canAny("canAny of nine", false, () -> waiting(9));
        canAny("canAny of ten", false, () -> waiting(10));
        Twins.state("canAny of eleven", () -> waiting(11), hub -> Twins.truth(hub.canAny()));
        Twins.state("canAny of twelve", () -> waiting(12), hub -> Twins.truth(hub.canAny()));
        Twins.state("canAny of sixty", PaymentEdges::sixty, hub -> Twins.truth(hub.canAny()));
        Queuefloat free = waiting(11);
        free.fund(1, 1000);
        Check.state("canAny of eleven that are free", () -> Twins.truth(free.canAny()));
        free.drop(12);
        Check.due("canAny of ten that are free", true, free.canAny());
    }

    /** Ten wait of which the one can, and no other. */
    private static Queuefloat oneOfTen(int one) {
        Queuefloat hub = new Queuefloat();
        for (int payment = 0; payment < 10; payment++) {
            if (payment == one) {
                hub.pay(0, 1, 1, 0);
            } else {
                hub.pay(2, 3, 2, 0);
            }
        }
        hub.fund(0, 1);
        return hub;
    }

    private static void promise16OneOfTen() {
        for (int i = 0; i < 10; i++) {
            int one = i;
            canAny("canAny of the one of ten " + one, true, () -> oneOfTen(one));
        }
        canAny("canAny of none of ten", false, () -> oneOfTen(10));
    }

    /** Each bank pays its two to the next one: but for 10 no two banks can pay the same sum. */
    private static Queuefloat ringOfTen(int last) {
        Queuefloat hub = new Queuefloat();
        for (int bank = 0; bank < 5; bank++) {
            hub.pay(bank, (bank + 1) % 5, bank < 4 ? 9 - bank : 5, 0);
        }
        for (int bank = 0; bank < 5; bank++) {
            hub.pay(bank, (bank + 1) % 5, bank < 4 ? 1 + bank : last, 0);
        }
        return hub;
    }

    private static void promise16AllTen() {
        canAny("canAny of all ten alone", true, () -> ringOfTen(5));
        canAny("canAny of all ten, short by one", false, () -> ringOfTen(6));
        canAny("canAny of all ten, short by one", false, () -> ringOfTen(4));
        Twins.asks("run where only all ten can", 0, () -> ringOfTen(5), Queuefloat::run);
    }

    private static Queuefloat pairAtFloor(int floor) {
        Queuefloat hub = new Queuefloat();
        hub.setFloor(2, floor);
        hub.pay(2, 4, 1000, 0);
        hub.pay(4, 2, 400, 0);
        return hub;
    }

    private static void promise16AtTheFloor() {
        canAny("canAny down to the floor", true, () -> pairAtFloor(-600));
        canAny("canAny below the floor", false, () -> pairAtFloor(-599));
    }

    private static Queuefloat pairAtBound(int bound) {
        Queuefloat hub = new Queuefloat();
        hub.fund(2, 600);
        hub.setBound(2, 4, bound);
        hub.pay(2, 4, 1000, 0);
        hub.pay(4, 2, 400, 0);
        return hub;
    }

    private static void promise16AtTheBound() {
        canAny("canAny up to the bound", true, () -> pairAtBound(600));
        canAny("canAny over the bound", false, () -> pairAtBound(599));
    }
}
