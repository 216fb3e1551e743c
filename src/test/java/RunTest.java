/** Promise 13: running the queues. */
final class RunTest {
    private RunTest() {
    }

    static void all() {
        oneByOne();
        onePaymentOfEachBankInARound();
        banksByRisingNumbers();
        aFirstThatCanGoesAheadOfSmallOnes();
        smallOnesGoPast();
        firstSmallOfTheQueue();
        aSmallFirstMayNotGo();
        boundsHold();
        moneyComesInTheSameRun();
        ring();
        largestSet();
        aShortBankStaysOut();
        setsHaveAFirstPayment();
        setsUnderBounds();
        setsWaitForARoundWithoutAny();
        againBehindASet();
        nextPaymentBehindAMorning();
    }

    private static void promised(String what, long want, long got) {
        Check.due("run: " + what, want, got);
    }

    private static void accounts(String what, Queuefloat hub, int... want) {
        for (int bank = 0; bank < want.length; bank++) {
            promised(what + ", account " + bank, want[bank], hub.account(bank));
        }
    }

    private static void oneByOne() {
        Queuefloat hub = new Queuefloat();
        promised("nothing waits", 0, hub.run());
        hub.fund(0, 30);
        hub.pay(0, 1, 10, 0);
        hub.pay(0, 2, 20, 0);
        promised("all go", 2, hub.run());
        accounts("all go", hub, 0, 10, 20, 0, 0);
        promised("nothing is left", 0, hub.run());
        hub.pay(0, 1, 1, 0);
        promised("a short one stays", 0, hub.run());
        promised("a short one stays", 2, hub.queued(0, 0));
        hub.setFloor(0, -1);
        promised("down to the floor", 1, hub.run());
        accounts("down to the floor", hub, -1, 11, 20, 0, 0);
    }

    /** What bank 1 pays between the two rounds lets bank 0's second one go, ahead of its third. */
    private static void onePaymentOfEachBankInARound() {
        Queuefloat hub = new Queuefloat();
        hub.fund(0, 100);
        hub.pay(0, 1, 60, 2);
        hub.pay(0, 2, 50, 1);
        hub.pay(0, 3, 40, 0);
        hub.pay(1, 0, 10, 0);
        promised("one of each bank in a round", 3, hub.run());
        accounts("one of each bank in a round", hub, 0, 50, 50, 0, 0);
        promised("the third has to wait", Queuefloat.SHORT, hub.why(2));
    }

    /**
     * The bank between the two others gets 15 in the first round, from one ahead of its turn and from
     * one behind it: if 10 come ahead, its small payment goes by them, else it can pay the 15 later.
     */
    private static void banksByRisingNumbers() {
        for (int between = 1; between < 4; between++) {
            for (int ahead = 0; ahead < between; ahead++) {
                for (int behind = between + 1; behind < 5; behind++) {
                    String banks = "banks " + ahead + ", " + between + ", " + behind;
                    Queuefloat hub = betweenTwo(ahead, 10, between, behind, 5);
                    promised("10 come ahead, " + banks, 3, hub.run());
                    promised("10 come ahead, " + banks, 5, hub.account(between));
                    promised("10 come ahead, " + banks, Queuefloat.GONE, hub.why(1));
                    hub = betweenTwo(ahead, 5, between, behind, 10);
                    promised("5 come ahead, " + banks, 3, hub.run());
                    promised("5 come ahead, " + banks, 0, hub.account(between));
                    promised("5 come ahead, " + banks, Queuefloat.SHORT, hub.why(1));
                }
            }
        }
    }

    private static Queuefloat betweenTwo(int ahead, int early, int between, int behind, int late) {
        Queuefloat hub = new Queuefloat();
        hub.fund(ahead, early);
        hub.fund(behind, late);
        hub.pay(between, ahead, 15, 1);
        hub.pay(between, ahead, 10, 0);
        hub.pay(ahead, between, early, 0);
        hub.pay(behind, between, late, 0);
        return hub;
    }

    /** The money is there for the large first one or for the small one behind it, not for both. */
    private static void aFirstThatCanGoesAheadOfSmallOnes() {
        Queuefloat hub = new Queuefloat();
        hub.fund(0, 500);
        hub.pay(0, 1, 500, 0);
        hub.pay(0, 2, 50, 0);
        promised("the first of one priority", 1, hub.run());
        accounts("the first of one priority", hub, 0, 500, 0, 0, 0);
        promised("the small one has to wait", 1, hub.queued(0, 0));
        hub.fund(0, 500);
        hub.pay(0, 3, 500, 1);
        promised("the first by its priority", 1, hub.run());
        accounts("the first by its priority", hub, 0, 500, 0, 500, 0);
        promised("the small one still waits", Queuefloat.SHORT, hub.why(1));
        hub.fund(0, 50);
        promised("the small one is the first", 1, hub.run());
        accounts("the small one is the first", hub, 0, 500, 50, 500, 0);
    }

    private static void smallOnesGoPast() {
        Queuefloat hub = new Queuefloat();
        hub.fund(0, 250);
        hub.pay(0, 1, 251, 2);
        hub.pay(0, 1, 101, 1);
        hub.pay(0, 2, 100, 0);
        hub.pay(0, 3, 99, 0);
        promised("small ones go past", 2, hub.run());
        promised("one not small stays", Queuefloat.SHORT, hub.why(1));
        accounts("small ones go past", hub, 51, 0, 100, 99, 0);
        hub.drop(0);
        promised("the next one is the first", 0, hub.run());
        hub.fund(0, 49);
        hub.setSmall(51);
        hub.pay(0, 4, 52, 0);
        hub.pay(0, 4, 51, 0);
        promised("at the small bound", 1, hub.run());
        accounts("at the small bound", hub, 49, 0, 100, 99, 51);
    }

    private static void firstSmallOfTheQueue() {
        Queuefloat hub = new Queuefloat();
        hub.fund(0, 60);
        hub.pay(0, 1, 500, 2);
        hub.pay(0, 1, 40, 0);
        hub.pay(0, 2, 50, 1);
        hub.pay(0, 3, 61, 1);
        promised("the first small one that can", 1, hub.run());
        accounts("the first small one that can", hub, 10, 0, 50, 0, 0);
        promised("the later one stays", Queuefloat.SHORT, hub.why(1));
        Queuefloat same = new Queuefloat();
        same.fund(0, 60);
        same.pay(0, 1, 500, 2);
        same.pay(0, 2, 40, 0);
        same.pay(0, 3, 50, 0);
        promised("the least number of one priority", 1, same.run());
        accounts("the least number of one priority", same, 20, 0, 40, 0, 0);
    }

    private static void aSmallFirstMayNotGo() {
        Queuefloat hub = new Queuefloat();
        hub.fund(0, 5);
        hub.pay(0, 1, 6, 0);
        hub.pay(0, 1, 5, 0);
        promised("past a small first one", 1, hub.run());
        promised("the small first one stays", 0, hub.queued(0, 0));
        hub.fund(0, 6);
        promised("and goes later", 1, hub.run());
    }

    private static void boundsHold() {
        Queuefloat hub = new Queuefloat();
        hub.fund(0, 1000);
        hub.setBound(0, 1, 300);
        hub.pay(0, 1, 200, 0);
        hub.pay(0, 1, 101, 0);
        hub.pay(0, 1, 100, 0);
        promised("within the bound", 2, hub.run());
        promised("over the bound", Queuefloat.OVER, hub.why(1));
        promised("at the bound", 300, hub.paid(0, 1));
        hub.pay(1, 0, 101, 0);
        promised("what comes back makes room", 2, hub.run());
        promised("what comes back makes room", 300, hub.paid(0, 1));
    }

    private static void moneyComesInTheSameRun() {
        Queuefloat hub = new Queuefloat();
        hub.fund(4, 70);
        hub.pay(4, 3, 70, 0);
        hub.pay(3, 2, 70, 0);
        hub.pay(2, 1, 70, 0);
        hub.pay(1, 0, 70, 0);
        promised("a chain down", 4, hub.run());
        accounts("a chain down", hub, 70, 0, 0, 0, 0);
        hub.pay(0, 1, 70, 0);
        hub.pay(1, 2, 70, 0);
        promised("a chain up", 2, hub.run());
        accounts("a chain up", hub, 0, 0, 70, 0, 0);
    }

    private static void ring() {
        Queuefloat hub = new Queuefloat();
        for (int bank = 0; bank < 5; bank++) {
            hub.pay(bank, (bank + 1) % 5, 1000, 0);
        }
        promised("a ring of all", 5, hub.run());
        accounts("a ring of all", hub, 0, 0, 0, 0, 0);
        promised("paid in a ring", 1000, hub.paid(4, 0));
        promised("paid in a ring", -1000, hub.paid(0, 4));
        hub.pay(0, 1, 1000, 0);
        hub.pay(1, 0, 1001, 0);
        promised("a ring that lacks one", 0, hub.run());
        hub.fund(1, 1);
        promised("a ring that lacks nothing", 2, hub.run());
        accounts("a ring that lacks nothing", hub, 1, 0, 0, 0, 0);
        Queuefloat floors = new Queuefloat();
        floors.setFloor(2, -5);
        floors.pay(2, 3, 20, 0);
        floors.pay(3, 2, 14, 0);
        promised("a set over the floor", 0, floors.run());
        floors.setFloor(2, -6);
        promised("a set down to the floor", 2, floors.run());
        accounts("a set down to the floor", floors, 0, 0, -6, 6, 0);
    }

    /**
     * Both the ring of 0 and 1 and the one of 2, 3 and 4 can go, so all five go at once. Were the
     * first ring to go alone, bank 2 would get the 60 while its small payment may still go past.
     */
    private static void largestSet() {
        Queuefloat hub = new Queuefloat();
        hub.setSmall(50);
        hub.fund(1, 60);
        hub.pay(0, 1, 10, 2);
        hub.pay(1, 0, 70, 2);
        hub.pay(0, 2, 60, 0);
        hub.pay(2, 3, 500, 2);
        hub.pay(3, 4, 500, 2);
        hub.pay(4, 2, 500, 2);
        hub.pay(2, 3, 60, 1);
        hub.pay(2, 4, 50, 0);
        promised("both rings at once", 7, hub.run());
        accounts("both rings at once", hub, 0, 0, 0, 60, 0);
        promised("the small one has to wait", Queuefloat.SHORT, hub.why(7));
    }

    private static void aShortBankStaysOut() {
        Queuefloat hub = new Queuefloat();
        hub.setSmall(0);
        hub.fund(4, 5);
        hub.pay(4, 0, 10, 0);
        hub.pay(0, 4, 5, 0);
        hub.pay(1, 4, 5, 0);
        promised("4 and 0 without 1", 2, hub.run());
        accounts("4 and 0 without 1", hub, 5, 0, 0, 0, 0);
        promised("1 stays", Queuefloat.SHORT, hub.why(2));
    }

    private static void setsHaveAFirstPayment() {
        Queuefloat hub = new Queuefloat();
        hub.setSmall(0);
        hub.pay(0, 1, 9, 1);
        hub.pay(1, 2, 8, 1);
        hub.pay(1, 0, 9, 0);
        promised("only the firsts go in sets", 0, hub.run());
        Check.due("canAny where run sends none", true, hub.canAny());
        hub.drop(1);
        promised("now it is the first", 2, hub.run());
    }

    private static void setsUnderBounds() {
        Queuefloat hub = new Queuefloat();
        hub.pay(0, 1, 500, 0);
        hub.pay(1, 2, 500, 0);
        hub.pay(2, 0, 500, 0);
        hub.setBound(1, 2, 499);
        promised("a set over a bound", 0, hub.run());
        promised("nothing went", 0, hub.paid(0, 1));
        hub.setBound(1, 2, 500);
        promised("a set at a bound", 3, hub.run());
        promised("paid by a set", 500, hub.paid(1, 2));
        hub.setBound(3, 4, 0);
        hub.setBound(4, 3, 0);
        hub.pay(3, 4, 7, 0);
        hub.pay(4, 3, 7, 0);
        promised("what comes back in the set counts", 2, hub.run());
        promised("what comes back in the set counts", 0, hub.paid(3, 4));
    }

    /**
     * The 10 of bank 4 come too late for bank 0 in the first round; in the second one its small
     * payment goes by them, so that the set of 0 and 1 lacks them.
     */
    private static void setsWaitForARoundWithoutAny() {
        Queuefloat hub = new Queuefloat();
        hub.fund(4, 10);
        hub.pay(0, 1, 100, 2);
        hub.pay(0, 2, 10, 0);
        hub.pay(1, 0, 95, 0);
        hub.pay(4, 0, 10, 0);
        promised("no set behind a round with one", 2, hub.run());
        accounts("no set behind a round with one", hub, 0, 0, 10, 0, 0);
        promised("the set has to wait", Queuefloat.SHORT, hub.why(0));
        hub.fund(0, 5);
        promised("the set goes then", 2, hub.run());
        accounts("the set goes then", hub, 0, 5, 10, 0, 0);
    }

    private static void againBehindASet() {
        Queuefloat hub = new Queuefloat();
        hub.fund(0, 1);
        hub.pay(0, 1, 200, 2);
        hub.pay(1, 0, 200, 2);
        hub.pay(0, 2, 1, 1);
        hub.pay(0, 3, 300, 0);
        hub.pay(3, 0, 300, 0);
        hub.setSmall(0);
        promised("a set, one alone, and a set", 5, hub.run());
        accounts("a set, one alone, and a set", hub, 0, 0, 1, 0, 0);
    }

    private static void nextPaymentBehindAMorning() {
        Queuefloat hub = new Queuefloat();
        hub.fund(2, 20);
        hub.setBound(2, 3, 10);
        hub.pay(2, 3, 10, 0);
        hub.pay(2, 3, 10, 0);
        promised("up to the bound", 1, hub.run());
        promised("nothing by a morning alone", 10, hub.account(2));
        hub.morning();
        promised("a morning keeps what waits", 1, hub.queued(2, 0));
        promised("the bound begins anew", 1, hub.run());
        accounts("the bound begins anew", hub, 0, 0, 0, 20, 0);
    }
}
