/** Promises 1 to 9: a new object, and the calls about banks. */
final class BanksTest {
    private BanksTest() {
    }

    static void all() {
        promise1NewObject();
        promise2Fund();
        promise2FundAtTheTop();
        promise3SetFloor();
        promise3FloorAndAccount();
        promise4SetBound();
        promise4BoundAndPaid();
        promise5GivePapers();
        promise5PapersAtTheTop();
        promise6Account();
        promise7Papers();
        promise8IsOpen();
        promise9Paid();
        closedBank();
    }

    private static final int[] NO_BANKS = {-1, 5, 6, Integer.MIN_VALUE, Integer.MAX_VALUE};

    /** A hub in which bank 1 is closed, with nothing, and the banks 0 and 2 have 100 each. */
    static Queuefloat withBank1Closed() {
        Queuefloat hub = new Queuefloat();
        hub.fund(0, 100);
        hub.givePapers(1, 2);
        hub.lend(0, 1, 100, 0, 2);
        hub.pay(1, 2, 100, 0);
        hub.run();
        hub.setPrice(20, 0);
        hub.morning();
        hub.fund(0, 60);
        return hub;
    }

    private static void promise1NewObject() {
        Queuefloat hub = new Queuefloat();
        for (int bank = 0; bank < 5; bank++) {
            Check.due("new account " + bank, 0, hub.account(bank));
            Check.due("new papers " + bank, 0, hub.papers(bank));
            Check.due("new isOpen " + bank, true, hub.isOpen(bank));
            Check.due("new queue " + bank, Queuefloat.NONE, hub.queued(bank, 0));
            Check.due("new floor " + bank, 0, hub.setFloor(bank, 0));
            for (int other = 0; other < 5; other++) {
                Check.due("new paid", 0, hub.paid(bank, other));
                if (other != bank) {
                    Check.due("new bound", 1000000, hub.setBound(bank, other, 1000000));
                }
            }
        }
        Check.due("new small bound", 100, hub.setSmall(100));
        Check.due("new run", 0, hub.run());
        Check.due("new canAny", false, hub.canAny());
        Check.due("new loans", 0, hub.loans());
        Check.due("new morning", 0, hub.morning());
        Check.due("new sold", 0, hub.sold());
        Check.index("new why", () -> hub.why(0));
        hub.givePapers(0, 10);
        hub.fund(1, 1000);
        Check.state("price 100 and cut 200 at first", () -> hub.lend(1, 0, 801, 0, 10));
        Check.due("price 100 and cut 200 at first", 0, hub.lend(1, 0, 800, 0, 10));
        Queuefloat second = new Queuefloat();
        Check.due("a second object stands alone", 0, second.account(1));
        Check.due("a second object stands alone", 0, second.loans());
    }

    private static void promise2Fund() {
        Queuefloat hub = new Queuefloat();
        Check.due("fund", 1, hub.fund(0, 1));
        Check.due("fund again", 1000001, hub.fund(0, 1000000));
        Check.due("fund last bank", 7, hub.fund(4, 7));
        Check.due("account behind fund", 1000001, hub.account(0));
        Check.due("account of another", 0, hub.account(1));
        for (int bank : NO_BANKS) {
            Check.index("fund " + bank, () -> hub.fund(bank, 1));
            Check.index("fund no bank, no cents", () -> hub.fund(bank, 0));
        }
        for (int cents : new int[] {0, -1, 1000001, Integer.MIN_VALUE, Integer.MAX_VALUE}) {
            Check.argument("fund cents " + cents, () -> hub.fund(0, cents));
        }
        Check.due("a refused fund changes nothing", 1000001, hub.account(0));
    }

    private static void promise2FundAtTheTop() {
        Queuefloat hub = new Queuefloat();
        for (int i = 0; i < 99; i++) {
            hub.fund(3, 1000000);
        }
        hub.fund(3, 1);
        Check.state("fund above the top", () -> hub.fund(3, 1000000));
        Check.due("fund to the top", 100000000, hub.fund(3, 999999));
        Check.state("fund at the top", () -> hub.fund(3, 1));
        Check.argument("no cents at the top", () -> hub.fund(3, 0));
        hub.fund(2, 5);
        hub.pay(2, 3, 5, 0);
        hub.run();
        Check.due("a payment goes past the top", 100000005, hub.account(3));
        Check.state("fund past the top", () -> hub.fund(3, 1));
        Check.due("fund of another", 1, hub.fund(2, 1));
    }

    private static void promise3SetFloor() {
        Queuefloat hub = new Queuefloat();
        Check.due("floor at first", 0, hub.setFloor(2, -1000000));
        Check.due("floor before", -1000000, hub.setFloor(2, -5));
        Check.due("floor before", -5, hub.setFloor(2, 0));
        for (int bank : NO_BANKS) {
            Check.index("setFloor " + bank, () -> hub.setFloor(bank, 0));
            Check.index("setFloor no bank, no floor", () -> hub.setFloor(bank, 1));
        }
        hub.fund(2, 100);
        for (int floor : new int[] {1, 100, -1000001, Integer.MIN_VALUE, Integer.MAX_VALUE}) {
            Check.argument("setFloor " + floor, () -> hub.setFloor(2, floor));
        }
        Check.due("a refused floor changes nothing", 0, hub.setFloor(2, 0));
    }

    private static void promise3FloorAndAccount() {
        Queuefloat hub = new Queuefloat();
        hub.setFloor(1, -50);
        hub.pay(1, 0, 30, 0);
        Check.due("pays down towards the floor", 1, hub.run());
        Check.argument("a floor above the account", () -> hub.setFloor(1, -29));
        Check.argument("a floor above the account", () -> hub.setFloor(1, 0));
        Check.due("a floor at the account", -50, hub.setFloor(1, -30));
        Check.due("the floors of others stay", 0, hub.setFloor(0, 0));
    }

    private static void promise4SetBound() {
        Queuefloat hub = new Queuefloat();
        Check.due("bound at first", 1000000, hub.setBound(1, 3, 0));
        Check.due("bound before", 0, hub.setBound(1, 3, 77));
        Check.due("the bound the other way stays", 1000000, hub.setBound(3, 1, 1000000));
        Check.due("bound before", 77, hub.setBound(1, 3, 1000000));
        for (int bank : NO_BANKS) {
            Check.index("setBound " + bank, () -> hub.setBound(bank, 0, 0));
            Check.index("setBound other " + bank, () -> hub.setBound(0, bank, 0));
            Check.index("setBound no banks", () -> hub.setBound(bank, bank, 0));
            Check.index("setBound no bank, no bound", () -> hub.setBound(0, bank, -1));
        }
        Check.argument("setBound of one and the same", () -> hub.setBound(2, 2, 5));
        for (int bound : new int[] {-1, 1000001, Integer.MIN_VALUE, Integer.MAX_VALUE}) {
            Check.argument("setBound " + bound, () -> hub.setBound(1, 3, bound));
        }
        Check.due("a refused bound changes nothing", 1000000, hub.setBound(1, 3, 1));
    }

    private static void promise4BoundAndPaid() {
        Queuefloat hub = new Queuefloat();
        hub.fund(1, 300);
        hub.pay(1, 3, 300, 0);
        hub.run();
        Check.argument("a bound below what is paid", () -> hub.setBound(1, 3, 299));
        Check.due("a bound at what is paid", 1000000, hub.setBound(1, 3, 300));
        Check.due("a bound of who got more", 1000000, hub.setBound(3, 1, 0));
        Check.argument("never below 0", () -> hub.setBound(3, 1, -1));
        hub.morning();
        Check.due("a bound stays over a morning", 300, hub.setBound(1, 3, 0));
    }

    private static void promise5GivePapers() {
        Queuefloat hub = new Queuefloat();
        Check.due("givePapers", 1, hub.givePapers(0, 1));
        Check.due("givePapers again", 1001, hub.givePapers(0, 1000));
        Check.due("givePapers to the last", 3, hub.givePapers(4, 3));
        for (int bank : NO_BANKS) {
            Check.index("givePapers " + bank, () -> hub.givePapers(bank, 1));
            Check.index("givePapers no bank, no papers", () -> hub.givePapers(bank, 0));
        }
        for (int papers : new int[] {0, -1, 1001, Integer.MIN_VALUE, Integer.MAX_VALUE}) {
            Check.argument("givePapers " + papers, () -> hub.givePapers(0, papers));
        }
        hub.fund(1, 100);
        hub.lend(1, 0, 100, 0, 1000);
        Check.due("without pledged ones", 2, hub.givePapers(0, 1));
    }

    private static void promise5PapersAtTheTop() {
        Queuefloat hub = new Queuefloat();
        for (int i = 0; i < 99; i++) {
            hub.givePapers(2, 1000);
        }
        hub.givePapers(2, 1);
        Check.state("papers above the top", () -> hub.givePapers(2, 1000));
        Check.due("papers to the top", 100000, hub.givePapers(2, 999));
        Check.state("papers at the top", () -> hub.givePapers(2, 1));
        Check.argument("no papers at the top", () -> hub.givePapers(2, 0));
        hub.fund(1, 1);
        hub.lend(1, 2, 1, 0, 10);
        Check.due("pledged ones make room", 100000, hub.givePapers(2, 10));
        hub.morning();
        Check.due("papers come back past the top", 100010, hub.papers(2));
        Check.state("papers past the top", () -> hub.givePapers(2, 1));
    }

    private static void promise6Account() {
        Queuefloat hub = new Queuefloat();
        for (int bank = 0; bank < 5; bank++) {
            hub.fund(bank, 10 + bank);
        }
        for (int bank = 0; bank < 5; bank++) {
            Check.due("account " + bank, 10 + bank, hub.account(bank));
        }
        for (int bank : NO_BANKS) {
            Check.index("account " + bank, () -> hub.account(bank));
        }
        hub.pay(0, 4, 10, 0);
        Check.due("an account while the payment waits", 10, hub.account(0));
        hub.run();
        Check.due("the account of the sender", 0, hub.account(0));
        Check.due("the account of the receiver", 24, hub.account(4));
        Check.due("the account of a closed bank", 0, withBank1Closed().account(1));
    }

    private static void promise7Papers() {
        Queuefloat hub = new Queuefloat();
        for (int bank = 0; bank < 5; bank++) {
            hub.givePapers(bank, 20 + bank);
        }
        for (int bank = 0; bank < 5; bank++) {
            Check.due("papers " + bank, 20 + bank, hub.papers(bank));
        }
        for (int bank : NO_BANKS) {
            Check.index("papers " + bank, () -> hub.papers(bank));
        }
        hub.fund(0, 50);
        hub.lend(0, 1, 50, 0, 15);
        Check.due("papers without pledged ones", 6, hub.papers(1));
        Check.due("papers of the lender", 20, hub.papers(0));
        hub.morning();
        Check.due("papers that came back", 21, hub.papers(1));
    }

    private static void promise8IsOpen() {
        Queuefloat hub = withBank1Closed();
        Check.due("isOpen of a closed bank", false, hub.isOpen(1));
        for (int bank : new int[] {0, 2, 3, 4}) {
            Check.due("isOpen " + bank, true, hub.isOpen(bank));
        }
        for (int bank : NO_BANKS) {
            Check.index("isOpen " + bank, () -> hub.isOpen(bank) ? 1 : 0);
        }
    }

    private static void promise9Paid() {
        Queuefloat hub = new Queuefloat();
        hub.fund(0, 100);
        hub.pay(0, 4, 70, 0);
        Check.due("nothing is paid by what waits", 0, hub.paid(0, 4));
        hub.run();
        Check.due("paid", 70, hub.paid(0, 4));
        Check.due("paid the other way", -70, hub.paid(4, 0));
        Check.due("paid to one and the same", 0, hub.paid(0, 0));
        Check.due("paid between others", 0, hub.paid(0, 1));
        hub.pay(4, 0, 50, 0);
        hub.run();
        Check.due("paid less what came back", 20, hub.paid(0, 4));
        Check.due("paid less what came back", -20, hub.paid(4, 0));
        hub.givePapers(1, 10);
        hub.lend(0, 1, 60, 0, 10);
        Check.due("a loan is no payment", 0, hub.paid(0, 1));
        hub.morning();
        Check.due("paid behind a morning", 0, hub.paid(0, 4));
        Check.due("paid behind a morning", 0, hub.paid(4, 0));
        Check.due("a loan repaid is no payment", 0, hub.paid(1, 0));
        for (int bank : NO_BANKS) {
            Check.index("paid of " + bank, () -> hub.paid(bank, 0));
            Check.index("paid to " + bank, () -> hub.paid(0, bank));
            Check.index("paid of none to none", () -> hub.paid(bank, bank));
        }
    }

    private static void closedBank() {
        Queuefloat hub = withBank1Closed();
        Check.state("fund of a closed bank", () -> hub.fund(1, 1));
        Check.argument("fund of a closed bank with no cents", () -> hub.fund(1, 0));
        Check.state("papers for a closed bank", () -> hub.givePapers(1, 1));
        Check.argument("no papers for a closed bank", () -> hub.givePapers(1, 0));
        Check.due("a closed bank's floor", 0, hub.setFloor(1, -9));
        Check.due("a closed bank's bound", 1000000, hub.setBound(1, 0, 9));
        Check.due("a bound against a closed bank", 1000000, hub.setBound(0, 1, 9));
    }
}
