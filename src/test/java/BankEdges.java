/** The boundary cases of promises 1 to 9: a new object, and the calls about banks. */
final class BankEdges {
    private BankEdges() {
    }

    static void all() {
        use512Calls();
        promise1FirstLimits();
        promise2Banks();
        promise2Cents();
        promise2AtTheTop();
        promise2BelowZero();
        promise2Closed();
        promise2WhichException();
        promise3Banks();
        promise3Range();
        promise3Account();
        promise3HoldsAtTheFloor();
        promise3Closed();
        promise4Banks();
        promise4OneAndTheSame();
        promise4Range();
        promise4Paid();
        promise4Closed();
        promise5Banks();
        promise5Papers();
        promise5AtTheTop();
        promise5WithoutPledged();
        promise5Closed();
        promise5WhichException();
        promise6And7And8Banks();
        promise6Extremes();
        promise7Extremes();
        promise8OnlyThatOne();
        promise9Banks();
        promise9OneAndTheSame();
        promise9Extremes();
    }

    /** Bank 2 has 99000000 cents. */
    private static Queuefloat rich() {
        Queuefloat hub = new Queuefloat();
        for (int i = 0; i < 99; i++) {
            hub.fund(2, 1000000);
        }
        return hub;
    }

    private static Queuefloat richest() {
        Queuefloat hub = rich();
        hub.fund(2, 1000000);
        return hub;
    }

    /** Bank 2 has 99000 papers. */
    private static Queuefloat paperRich() {
        Queuefloat hub = new Queuefloat();
        for (int i = 0; i < 99; i++) {
            hub.givePapers(2, 1000);
        }
        return hub;
    }

    private static Queuefloat paperRichest() {
        Queuefloat hub = paperRich();
        hub.givePapers(2, 1000);
        return hub;
    }

    /** Bank 1 has -30 cents and the floor -50; it has paid 30 to bank 4. */
    private static Queuefloat overdrawn() {
        Queuefloat hub = new Queuefloat();
        hub.setFloor(1, -50);
        hub.pay(1, 4, 30, 0);
        hub.run();
        return hub;
    }

    /** Bank 0 has paid as much to bank 1 as the bound at first lets it. */
    static Queuefloat paidToTheBound() {
        Queuefloat hub = new Queuefloat();
        hub.fund(0, 1000000);
        hub.fund(0, 500);
        for (int i = 0; i < 10; i++) {
            hub.pay(0, 1, 100000, 0);
        }
        hub.run();
        return hub;
    }

    private static void use512Calls() {
        Queuefloat hub = new Queuefloat();
        for (int call = 1; call < 512; call++) {
            hub.fund(call % 5, 1);
        }
        Check.due("the 512th call", 104, hub.fund(1, 1));
    }

    private static void promise1FirstLimits() {
        Twins.asks("a new hub's run", 0, Queuefloat::new, Queuefloat::run);
        Twins.asks("a new hub's morning", 0, Queuefloat::new, Queuefloat::morning);
        for (int i = 0; i < 5; i++) {
            int bank = i;
            int next = (i + 1) % 5;
            Twins.answers("the floor at first " + bank, Queuefloat.SHORT, Queuefloat::new,
                    hub -> hub.why(hub.pay(bank, next, 1, 0)));
            Twins.argument("a floor above the account at first " + bank, Queuefloat::new,
                    hub -> hub.setFloor(bank, 1));
            Twins.state("no papers at first " + bank, Queuefloat::new,
                    hub -> hub.lend(next, bank, 1, 0, 1));
        }
        Twins.answers("within the bound at first", 1000000, BankEdges::paidToTheBound, hub -> hub.paid(0, 1));
        Twins.answers("over the bound at first", Queuefloat.OVER, BankEdges::paidToTheBound,
                hub -> hub.why(hub.pay(0, 1, 1, 0)));
    }

    private static void promise2Banks() {
        for (int bank : Twins.NO_BANKS) {
            Twins.index("fund " + bank, Twins::busy, hub -> hub.fund(bank, 1));
        }
        Twins.answers("fund the first bank", 7, Queuefloat::new, hub -> hub.fund(0, 7));
        Twins.answers("fund the last bank", 8, Queuefloat::new, hub -> hub.fund(4, 8));
    }

    private static void promise2Cents() {
        for (int cents : new int[] {0, -1, 1000001, Integer.MIN_VALUE, Integer.MAX_VALUE}) {
            Twins.argument("fund cents " + cents, Twins::busy, hub -> hub.fund(4, cents));
        }
        Twins.answers("fund the least", 1, Queuefloat::new, hub -> hub.fund(3, 1));
        Twins.answers("fund the most", 1000000, Queuefloat::new, hub -> hub.fund(3, 1000000));
    }

    private static void promise2AtTheTop() {
        Twins.answers("fund up to the top", 100000000, BankEdges::rich, hub -> hub.fund(2, 1000000));
        Twins.state("fund at the top", BankEdges::richest, hub -> hub.fund(2, 1));
        Twins.state("fund the most at the top", BankEdges::richest, hub -> hub.fund(2, 1000000));
        Queuefloat near = rich();
        near.fund(2, 1);
        Check.state("fund one above the top", () -> near.fund(2, 1000000));
        Check.due("fund up to the top by less", 100000000, near.fund(2, 999999));
        Twins.answers("fund another one", 1, BankEdges::richest, hub -> hub.fund(1, 1));
    }

    private static void promise2BelowZero() {
        Twins.answers("fund from below 0", -29, BankEdges::overdrawn, hub -> hub.fund(1, 1));
        Twins.answers("fund to 0", 0, BankEdges::overdrawn, hub -> hub.fund(1, 30));
        Twins.answers("fund across 0", 999970, BankEdges::overdrawn, hub -> hub.fund(1, 1000000));
    }

    private static void promise2Closed() {
        Twins.state("fund a closed bank", Twins::busy, hub -> hub.fund(3, 1));
        Twins.state("fund a closed bank with the most", Twins::busy, hub -> hub.fund(3, 1000000));
    }

    private static void promise2WhichException() {
        Twins.index("fund no bank with nothing", Twins::busy, hub -> hub.fund(5, 0));
        Twins.index("fund no bank with too much", Twins::busy, hub -> hub.fund(-1, 1000001));
        Twins.argument("fund a closed bank with nothing", Twins::busy, hub -> hub.fund(3, 0));
        Twins.argument("fund a closed bank with too much", Twins::busy, hub -> hub.fund(3, 1000001));
        Twins.argument("fund with nothing at the top", BankEdges::richest, hub -> hub.fund(2, 0));
        Twins.argument("fund with too much at the top", BankEdges::richest, hub -> hub.fund(2, 1000001));
    }

    private static void promise3Banks() {
        for (int bank : Twins.NO_BANKS) {
            Twins.index("setFloor " + bank, Twins::busy, hub -> hub.setFloor(bank, 0));
            Twins.index("setFloor no bank, too high " + bank, Twins::busy, hub -> hub.setFloor(bank, 1));
            Twins.index("setFloor no bank, too low " + bank, Twins::busy, hub -> hub.setFloor(bank, -1000001));
        }
        for (int bank : new int[] {0, 4}) {
            Queuefloat hub = new Queuefloat();
            Check.due("floor of " + bank, 0, hub.setFloor(bank, -3));
            Check.due("floor of " + bank, -3, hub.setFloor(bank, -4));
        }
    }

    private static void promise3Range() {
        for (int floor : new int[] {1, 2, 1000000, -1000001, Integer.MIN_VALUE, Integer.MAX_VALUE}) {
            Twins.argument("setFloor " + floor, Twins::busy, hub -> hub.setFloor(0, floor));
        }
        Queuefloat hub = Twins.busy();
        Check.due("setFloor to the least", -50, hub.setFloor(2, -1000000));
        Check.due("setFloor to 0", -1000000, hub.setFloor(2, 0));
        Check.due("setFloor to what it is", 0, hub.setFloor(2, 0));
        Check.due("setFloor from what it was", 0, hub.setFloor(2, -1));
    }

    private static void promise3Account() {
        for (int floor : new int[] {-29, -1, 0, 1}) {
            Twins.argument("setFloor above the account " + floor, BankEdges::overdrawn,
                    hub -> hub.setFloor(1, floor));
        }
        Queuefloat hub = overdrawn();
        Check.due("setFloor at the account", -50, hub.setFloor(1, -30));
        Check.due("setFloor below the account", -30, hub.setFloor(1, -31));
        hub.fund(1, 29);
        Check.due("setFloor at the account then", -31, hub.setFloor(1, -1));
        Check.argument("setFloor above the account then", () -> hub.setFloor(1, 0));
        hub.fund(1, 1);
        Check.due("setFloor at an account of 0", -1, hub.setFloor(1, 0));
        Check.argument("setFloor above an account of 0", () -> hub.setFloor(1, 1));
        hub.fund(1, 1);
        Check.argument("setFloor at an account above 0", () -> hub.setFloor(1, 1));
    }

    private static void promise3HoldsAtTheFloor() {
        Queuefloat hub = new Queuefloat();
        hub.setFloor(4, -1000000);
        for (int i = 0; i < 10; i++) {
            hub.pay(4, i % 4, 100000, 0);
        }
        Check.due("down to the least floor", 10, hub.run());
        Check.due("down to the least floor", -1000000, hub.account(4));
        Check.due("below the least floor", Queuefloat.SHORT, hub.why(hub.pay(4, 0, 1, 0)));
        Check.due("below the least floor", 0, hub.run());
        Check.argument("a floor above the least account", () -> hub.setFloor(4, -999999));
        Check.due("the least floor again", -1000000, hub.setFloor(4, -1000000));
    }

    private static void promise3Closed() {
        Queuefloat hub = Twins.busy();
        Check.due("setFloor of a closed bank", 0, hub.setFloor(3, -1000000));
        Check.due("setFloor of a closed bank", -1000000, hub.setFloor(3, 0));
        Twins.argument("setFloor of a closed bank too high", Twins::busy, closed -> closed.setFloor(3, 1));
    }

    private static void promise4Banks() {
        for (int bank : Twins.NO_BANKS) {
            Twins.index("setBound of " + bank, Twins::busy, hub -> hub.setBound(bank, 4, 0));
            Twins.index("setBound against " + bank, Twins::busy, hub -> hub.setBound(0, bank, 0));
            Twins.index("setBound of none, one and the same " + bank, Twins::busy,
                    hub -> hub.setBound(bank, bank, 0));
            Twins.index("setBound of none, too low " + bank, Twins::busy, hub -> hub.setBound(bank, 0, -1));
            Twins.index("setBound against none, too high " + bank, Twins::busy,
                    hub -> hub.setBound(0, bank, 1000001));
        }
        Queuefloat hub = new Queuefloat();
        Check.due("setBound of the first against the last", 1000000, hub.setBound(0, 4, 3));
        Check.due("setBound of the last against the first", 1000000, hub.setBound(4, 0, 5));
        Check.due("one bound for each way", 3, hub.setBound(0, 4, 0));
        Check.due("one bound for each way", 5, hub.setBound(4, 0, 0));
    }

    private static void promise4OneAndTheSame() {
        for (int i = 0; i < 5; i++) {
            int bank = i;
            Twins.argument("setBound against itself " + bank, Twins::busy, hub -> hub.setBound(bank, bank, 0));
            Twins.argument("setBound against itself, too low", Twins::busy, hub -> hub.setBound(bank, bank, -1));
        }
    }

    private static void promise4Range() {
        for (int bound : new int[] {-1, 1000001, Integer.MIN_VALUE, Integer.MAX_VALUE}) {
            Twins.argument("setBound " + bound, Twins::busy, hub -> hub.setBound(4, 2, bound));
        }
        Queuefloat hub = Twins.busy();
        Check.due("setBound to the least", 1000000, hub.setBound(4, 2, 0));
        Check.due("setBound to the most", 0, hub.setBound(4, 2, 1000000));
        Check.due("setBound to the most again", 1000000, hub.setBound(4, 2, 999999));
        Check.due("setBound to less", 999999, hub.setBound(4, 2, 1));
    }

    private static void promise4Paid() {
        for (int bound : new int[] {499, 1, 0, -500}) {
            Twins.argument("setBound below what is paid " + bound, Twins::busy, hub -> hub.setBound(0, 1, bound));
        }
        Queuefloat hub = Twins.busy();
        Check.due("setBound at what is paid", 600, hub.setBound(0, 1, 500));
        Check.due("setBound of who was paid", 1000000, hub.setBound(1, 0, 0));
        Check.argument("setBound of who was paid, below 0", () -> hub.setBound(1, 0, -1));
        Check.argument("setBound at less than nothing paid", () -> hub.setBound(1, 0, -500));
        hub.morning();
        Check.due("setBound behind a morning", 500, hub.setBound(0, 1, 0));
        Queuefloat most = paidToTheBound();
        Check.argument("setBound one below the most", () -> most.setBound(0, 1, 999999));
        Check.due("setBound at the most", 1000000, most.setBound(0, 1, 1000000));
    }

    private static void promise4Closed() {
        Queuefloat hub = Twins.busy();
        Check.due("setBound of a closed bank", 1000000, hub.setBound(3, 0, 0));
        Check.due("setBound of a closed bank", 0, hub.setBound(3, 0, 1000000));
        Check.due("setBound against a closed bank", 1000000, hub.setBound(0, 3, 0));
    }

    private static void promise5Banks() {
        for (int bank : Twins.NO_BANKS) {
            Twins.index("givePapers " + bank, Twins::busy, hub -> hub.givePapers(bank, 1));
        }
        Twins.answers("givePapers to the first bank", 7, Queuefloat::new, hub -> hub.givePapers(0, 7));
        Twins.answers("givePapers to the last bank", 8, Queuefloat::new, hub -> hub.givePapers(4, 8));
    }

    private static void promise5Papers() {
        for (int papers : new int[] {0, -1, 1001, Integer.MIN_VALUE, Integer.MAX_VALUE}) {
            Twins.argument("givePapers " + papers, Twins::busy, hub -> hub.givePapers(2, papers));
        }
        Twins.answers("givePapers the least", 1, Queuefloat::new, hub -> hub.givePapers(3, 1));
        Twins.answers("givePapers the most", 1000, Queuefloat::new, hub -> hub.givePapers(3, 1000));
    }

    private static void promise5AtTheTop() {
        Twins.answers("givePapers up to the top", 100000, BankEdges::paperRich, hub -> hub.givePapers(2, 1000));
        Twins.state("givePapers at the top", BankEdges::paperRichest, hub -> hub.givePapers(2, 1));
        Twins.state("givePapers the most at the top", BankEdges::paperRichest, hub -> hub.givePapers(2, 1000));
        Queuefloat near = paperRich();
        near.givePapers(2, 1);
        Check.state("givePapers one above the top", () -> near.givePapers(2, 1000));
        Check.due("givePapers up to the top by less", 100000, near.givePapers(2, 999));
        Twins.answers("givePapers to another one", 1, BankEdges::paperRichest, hub -> hub.givePapers(1, 1));
    }

    /** Pledged papers do not count for the top, and come back past it. */
    private static void promise5WithoutPledged() {
        Queuefloat hub = paperRichest();
        hub.fund(0, 10);
        hub.lend(0, 2, 10, 0, 5);
        Check.state("one more than the pledged ones", () -> hub.givePapers(2, 6));
        Check.due("as many as the pledged ones", 100000, hub.givePapers(2, 5));
        Check.due("they come back", 0, hub.morning());
        Check.due("they come back", 100005, hub.papers(2));
        Check.state("givePapers above the top", () -> hub.givePapers(2, 1));
    }

    private static void promise5Closed() {
        Twins.state("givePapers to a closed bank", Twins::busy, hub -> hub.givePapers(3, 1));
        Twins.state("givePapers the most to a closed bank", Twins::busy, hub -> hub.givePapers(3, 1000));
    }

    private static void promise5WhichException() {
        Twins.index("givePapers none to no bank", Twins::busy, hub -> hub.givePapers(5, 0));
        Twins.index("givePapers too many to no bank", Twins::busy, hub -> hub.givePapers(-1, 1001));
        Twins.argument("givePapers none to a closed bank", Twins::busy, hub -> hub.givePapers(3, 0));
        Twins.argument("givePapers too many to a closed bank", Twins::busy, hub -> hub.givePapers(3, 1001));
        Twins.argument("givePapers none at the top", BankEdges::paperRichest, hub -> hub.givePapers(2, 0));
        Twins.argument("givePapers too many at the top", BankEdges::paperRichest, hub -> hub.givePapers(2, 1001));
    }

    private static void promise6And7And8Banks() {
        for (int bank : Twins.NO_BANKS) {
            Twins.index("account of " + bank, Twins::busy, hub -> hub.account(bank));
            Twins.index("papers of " + bank, Twins::busy, hub -> hub.papers(bank));
            Twins.index("isOpen of " + bank, Twins::busy, hub -> Twins.truth(hub.isOpen(bank)));
        }
        int[] accounts = {5000 + 40 - 900 - 500, 700 + 900 + 500, 90, 960, 0};
        int[] papers = {0, 20, 30, 10, 0};
        for (int i = 0; i < 5; i++) {
            int bank = i;
            Twins.asks("account of " + bank, accounts[bank], Twins::busy, hub -> hub.account(bank));
            Twins.asks("papers of " + bank, papers[bank], Twins::busy, hub -> hub.papers(bank));
            Twins.asks("isOpen of " + bank, bank == 3 ? 0 : 1, Twins::busy, hub -> Twins.truth(hub.isOpen(bank)));
        }
    }

    private static void promise6Extremes() {
        Twins.asks("an account at the top", 100000000, BankEdges::richest, hub -> hub.account(2));
        Twins.asks("an account below 0", -30, BankEdges::overdrawn, hub -> hub.account(1));
    }

    private static void promise7Extremes() {
        Twins.asks("papers at the top", 100000, BankEdges::paperRichest, hub -> hub.papers(2));
        Queuefloat hub = paperRich();
        hub.fund(0, 100000);
        for (int loan = 0; loan < 40; loan++) {
            hub.lend(0, 2, 1, 0, 1000);
        }
        Check.due("papers behind forty pledges", 59000, hub.papers(2));
        Queuefloat all = new Queuefloat();
        all.fund(0, 1);
        all.givePapers(4, 1000);
        all.lend(0, 4, 1, 0, 1000);
        Check.due("papers when all are pledged", 0, all.papers(4));
    }

    private static void promise8OnlyThatOne() {
        for (int poor : new int[] {0, 4}) {
            Queuefloat hub = new Queuefloat();
            hub.fund(2, 5);
            hub.givePapers(poor, 1);
            hub.lend(2, poor, 5, 200, 1);
            hub.morning();
            for (int bank = 0; bank < 5; bank++) {
                Check.due("isOpen of " + bank, bank != poor, hub.isOpen(bank));
            }
        }
    }

    private static void promise9Banks() {
        for (int bank : Twins.NO_BANKS) {
            Twins.index("paid of " + bank, Twins::busy, hub -> hub.paid(bank, 0));
            Twins.index("paid to " + bank, Twins::busy, hub -> hub.paid(4, bank));
            Twins.index("paid of none to the same none " + bank, Twins::busy, hub -> hub.paid(bank, bank));
        }
        Twins.asks("paid of the first to the last", 0, Twins::busy, hub -> hub.paid(0, 4));
        Twins.asks("paid of the last to the first", 0, Twins::busy, hub -> hub.paid(4, 0));
        Twins.asks("paid", 500, Twins::busy, hub -> hub.paid(0, 1));
        Twins.asks("paid the other way", -500, Twins::busy, hub -> hub.paid(1, 0));
    }

    private static void promise9OneAndTheSame() {
        for (int i = 0; i < 5; i++) {
            int bank = i;
            Twins.asks("paid to itself " + bank, 0, Twins::busy, hub -> hub.paid(bank, bank));
            Twins.asks("paid to itself at the bound", 0, BankEdges::paidToTheBound, hub -> hub.paid(bank, bank));
        }
    }

    private static void promise9Extremes() {
        Twins.asks("paid up to the bound", 1000000, BankEdges::paidToTheBound, hub -> hub.paid(0, 1));
        Twins.asks("paid down to the bound", -1000000, BankEdges::paidToTheBound, hub -> hub.paid(1, 0));
        Queuefloat hub = paidToTheBound();
        Check.due("ten of a hundred thousand come back", 1000000, hub.account(1));
        for (int i = 0; i < 20; i++) {
            hub.pay(1, 0, 100000, 0);
        }
        hub.fund(1, 1000000);
        Check.due("they come back, and as many more", 20, hub.run());
        Check.due("they come back, and as many more", -1000000, hub.paid(0, 1));
        Check.due("they come back, and as many more", 1000000, hub.paid(1, 0));
        hub.fund(1, 1);
        Check.due("one more is over", Queuefloat.OVER, hub.why(hub.pay(1, 0, 1, 0)));
        hub.morning();
        Check.due("a morning's paid", 0, hub.paid(0, 1));
        Check.due("a morning's paid", 0, hub.paid(1, 0));
    }
}
