/** The boundary cases of promises 17 to 21: prices, loans and mornings. */
final class LoanEdges {
    private LoanEdges() {
    }

    static void all() {
        promise17Range();
        promise17TheEnds();
        promise18Banks();
        promise18OneAndTheSame();
        promise18Amount();
        promise18Rate();
        promise18Papers();
        promise18Closed();
        promise18FortyLoans();
        promise18FewerPapers();
        promise18Worth();
        promise18WorthRoundedDown();
        promise18Floor();
        promise18IndexAheadOfAll();
        promise18ArgumentAheadOfState();
        promise19EmptyAndFull();
        promise20NoLoans();
        promise20BoundsBeginAnew();
        promise20RepaidAtTheFloor();
        promise20InterestRoundedDown();
        promise20WhatTheLenderGets();
        promise20AllClose();
        promise20ClosedAlready();
        promise20PastTheTop();
        promise20WhatIsDropped();
        promise21EmptyAndFull();
    }

    /** Bank 0 has 100000 cents, bank 1 as many papers as said, with the first price and cut. */
    private static Queuefloat withPapers(int papers) {
        Queuefloat hub = new Queuefloat();
        hub.fund(0, 100000);
        hub.givePapers(1, papers);
        return hub;
    }

    private static Queuefloat forty() {
        Queuefloat hub = withPapers(100);
        hub.givePapers(2, 100);
        for (int loan = 0; loan < 40; loan++) {
            hub.lend(0, 1, 1, 0, 1);
        }
        return hub;
    }

    private static Queuefloat fortyRepaid() {
        Queuefloat hub = forty();
        hub.morning();
        return hub;
    }

    private static void promise17Range() {
        for (int price : new int[] {0, -1, 1001, Integer.MIN_VALUE, Integer.MAX_VALUE}) {
            Twins.argument("setPrice " + price, Twins::busy, hub -> Twins.priced(hub, price, 200));
            Twins.argument("setPrice with both wrong " + price, Twins::busy, hub -> Twins.priced(hub, price, -1));
        }
        for (int cut : new int[] {-1, 1001, Integer.MIN_VALUE, Integer.MAX_VALUE}) {
            Twins.argument("setPrice with cut " + cut, Twins::busy, hub -> Twins.priced(hub, 100, cut));
            Twins.argument("setPrice of the most with cut " + cut, Twins::busy, hub -> Twins.priced(hub, 1000, cut));
        }
    }

    /** The most that a pledge is worth is lent, and not one more. */
    private static void worth(String what, int price, int cut, int pledge, int most) {
        Queuefloat hub = withPapers(1000);
        hub.setPrice(price, cut);
        if (most < 100000) {
            Check.state(what + " and one more", () -> hub.lend(0, 1, most + 1, 0, pledge));
        }
        if (most > 0) {
            Check.due(what, 0, hub.lend(0, 1, most, 0, pledge));
        }
    }

    private static void promise17TheEnds() {
        worth("the least price", 1, 0, 1, 1);
        worth("the least price, the next cut", 1, 1, 1, 0);
        worth("the least price, the next cut", 1, 1, 1000, 999);
        worth("the most cut but one", 1000, 999, 7, 7);
        worth("the most cut", 1000, 1000, 1000, 0);
        worth("the most price", 1000, 0, 99, 99000);
        worth("the most price for the most", 1000, 0, 100, 100000);
        worth("the most price but one", 999, 0, 100, 99900);
        worth("the most price for all papers", 1000, 0, 1000, 100000);
    }

    private static void promise18Banks() {
        for (int bank : Twins.NO_BANKS) {
            Twins.index("lend by " + bank, Twins::busy, hub -> hub.lend(bank, 2, 1, 0, 1));
            Twins.index("lend to " + bank, Twins::busy, hub -> hub.lend(0, bank, 1, 0, 1));
            Twins.index("lend by none to the same none " + bank, Twins::busy, hub -> hub.lend(bank, bank, 1, 0, 1));
        }
        Queuefloat hub = new Queuefloat();
        hub.fund(0, 9);
        hub.givePapers(4, 1);
        hub.givePapers(0, 1);
        Check.due("lend by the first to the last", 0, hub.lend(0, 4, 9, 0, 1));
        Check.due("lend by the last to the first", 1, hub.lend(4, 0, 9, 0, 1));
    }

    private static void promise18OneAndTheSame() {
        for (int i = 0; i < 5; i++) {
            int bank = i;
            Twins.argument("lend to itself " + bank, Twins::busy, hub -> hub.lend(bank, bank, 1, 0, 1));
        }
    }

    private static void promise18Amount() {
        for (int amount : new int[] {0, -1, 100001, Integer.MIN_VALUE, Integer.MAX_VALUE}) {
            Twins.argument("lend " + amount, Twins::busy, hub -> hub.lend(0, 2, amount, 0, 30));
        }
        Queuefloat hub = withPapers(1000);
        hub.givePapers(1, 1000);
        hub.fund(0, 1);
        hub.setPrice(1000, 0);
        Check.argument("lend one above the most", () -> hub.lend(0, 1, 100001, 0, 1000));
        Check.due("lend the least", 0, hub.lend(0, 1, 1, 0, 1));
        Check.due("lend the most", 1, hub.lend(0, 1, 100000, 0, 100));
        Check.due("lend the most", 100001, hub.account(1));
        Check.due("lend the most", 0, hub.account(0));
    }

    private static void promise18Rate() {
        for (int rate : new int[] {-1, 201, Integer.MIN_VALUE, Integer.MAX_VALUE}) {
            Twins.argument("lend at " + rate, Twins::busy, hub -> hub.lend(0, 2, 1, rate, 1));
        }
        Queuefloat hub = withPapers(1000);
        hub.fund(1, 200);
        Check.due("lend at the least rate", 0, hub.lend(0, 1, 1000, 0, 100));
        Check.due("lend at the most", 1, hub.lend(0, 1, 1000, 200, 100));
        Check.due("both are repaid", 0, hub.morning());
        Check.due("both are repaid", 100200, hub.account(0));
        Check.due("both are repaid", 0, hub.account(1));
    }

    private static void promise18Papers() {
        for (int papers : new int[] {-1, 1001, Integer.MIN_VALUE, Integer.MAX_VALUE}) {
            Twins.argument("lend for " + papers, Twins::busy, hub -> hub.lend(0, 2, 1, 0, papers));
        }
        Twins.state("lend for no papers", Twins::busy, hub -> hub.lend(0, 2, 1, 0, 0));
        Queuefloat hub = withPapers(1000);
        hub.givePapers(1, 1);
        Check.argument("lend for one above the most", () -> hub.lend(0, 1, 1, 0, 1001));
        Check.due("lend for the most", 0, hub.lend(0, 1, 1, 0, 1000));
        Check.due("lend for the least", 1, hub.lend(0, 1, 1, 0, 1));
        Check.due("all are pledged", 0, hub.papers(1));
    }

    private static Queuefloat closedWithMeans() {
        Queuefloat hub = withPapers(20);
        hub.givePapers(2, 5);
        hub.lend(0, 1, 100, 200, 5);
        hub.morning();
        return hub;
    }

    private static void promise18Closed() {
        Twins.state("lend by a closed bank", LoanEdges::closedWithMeans, hub -> hub.lend(1, 2, 10, 0, 5));
        Twins.state("lend to a closed bank", LoanEdges::closedWithMeans, hub -> hub.lend(0, 1, 10, 0, 5));
        Twins.answers("lend among others", 1, LoanEdges::closedWithMeans, hub -> hub.lend(0, 2, 10, 0, 5));
    }

    private static void promise18FortyLoans() {
        Queuefloat hub = withPapers(100);
        hub.givePapers(2, 100);
        for (int loan = 0; loan < 39; loan++) {
            hub.lend(0, 1, 1, 0, 1);
        }
        Check.due("the fortieth", 39, hub.lend(0, 2, 1, 0, 1));
        Twins.state("the 41st", LoanEdges::forty, other -> other.lend(0, 1, 1, 0, 1));
        Twins.state("the 41st of another", LoanEdges::forty, other -> other.lend(1, 2, 1, 0, 1));
        Twins.state("the 41st where forty are repaid", LoanEdges::fortyRepaid, other -> other.lend(0, 1, 1, 0, 1));
    }

    private static void promise18FewerPapers() {
        Twins.state("one paper too few", () -> withPapers(4), hub -> hub.lend(0, 1, 1, 0, 5));
        Twins.answers("just as many papers", 0, () -> withPapers(4), hub -> hub.lend(0, 1, 1, 0, 4));
        Twins.state("no papers at all", () -> withPapers(4), hub -> hub.lend(0, 2, 1, 0, 1));
        Twins.state("far too few", () -> withPapers(4), hub -> hub.lend(0, 1, 1, 0, 1000));
        Queuefloat hub = withPapers(4);
        hub.lend(0, 1, 1, 0, 3);
        Check.state("pledged ones are not there", () -> hub.lend(0, 1, 1, 0, 2));
        Check.due("the last one", 1, hub.lend(0, 1, 1, 0, 1));
        Check.state("none is left", () -> hub.lend(0, 1, 1, 0, 1));
        hub.morning();
        Check.due("they came back", 2, hub.lend(0, 1, 1, 0, 4));
    }

    private static void promise18Worth() {
        Twins.state("worth one too little", () -> withPapers(10), hub -> hub.lend(0, 1, 801, 0, 10));
        Twins.answers("worth just as much", 0, () -> withPapers(10), hub -> hub.lend(0, 1, 800, 0, 10));
        Twins.answers("worth more", 0, () -> withPapers(10), hub -> hub.lend(0, 1, 799, 200, 10));
        Twins.state("worth far too little", () -> withPapers(1), hub -> hub.lend(0, 1, 100000, 0, 1));
    }

    private static void promise18WorthRoundedDown() {
        worth("4 * 3 * 0.3", 3, 700, 4, 3);
        worth("1 * 1 * 0.999", 1, 1, 1, 0);
        worth("2 * 3 * 0.333", 3, 667, 2, 1);
        worth("1000 * 1 * 0.001", 1, 999, 1000, 1);
        worth("999 * 1 * 0.001", 1, 999, 999, 0);
        worth("7 * 997 * 0.501", 997, 499, 7, 3496);
    }

    private static void promise18Floor() {
        Queuefloat hub = withPapers(1000);
        hub.pay(0, 2, 99900, 0);
        hub.run();
        Check.state("the lender below 0", () -> hub.lend(0, 1, 101, 0, 2));
        hub.setFloor(0, -50);
        Check.state("the lender below its floor", () -> hub.lend(0, 1, 151, 0, 2));
        Check.due("the lender down to its floor", 0, hub.lend(0, 1, 150, 0, 2));
        Check.due("the lender down to its floor", -50, hub.account(0));
        Check.state("the lender at its floor", () -> hub.lend(0, 1, 1, 0, 2));
        Queuefloat zero = withPapers(10);
        Twins.state("the lender with nothing", () -> withPapers(10), other -> other.lend(2, 1, 1, 0, 1));
        zero.setFloor(2, -1);
        Check.state("the lender with a floor", () -> zero.lend(2, 1, 2, 0, 1));
        Check.due("the lender with a floor", 0, zero.lend(2, 1, 1, 0, 1));
        Queuefloat low = withPapers(10);
        low.setFloor(1, -7);
        low.pay(1, 0, 7, 0);
        low.run();
        Check.due("the borrower at its floor", 0, low.lend(0, 1, 5, 0, 1));
        Check.due("the borrower at its floor", -2, low.account(1));
    }

    private static void promise18IndexAheadOfAll() {
        for (int none : new int[] {-1, 5}) {
            Twins.index("nothing to none", Twins::busy, hub -> hub.lend(0, none, 0, 0, 1));
            Twins.index("too much by none", Twins::busy, hub -> hub.lend(none, 2, 100001, 0, 1));
            Twins.index("no rate to none", Twins::busy, hub -> hub.lend(0, none, 1, -1, 1));
            Twins.index("too high a rate by none", Twins::busy, hub -> hub.lend(none, 2, 1, 201, 1));
            Twins.index("less than no papers to none", Twins::busy, hub -> hub.lend(0, none, 1, 0, -1));
            Twins.index("too many papers by none", Twins::busy, hub -> hub.lend(none, 2, 1, 0, 1001));
            Twins.index("by a closed bank to none", Twins::busy, hub -> hub.lend(3, none, 1, 0, 1));
            Twins.index("by none to a closed bank", Twins::busy, hub -> hub.lend(none, 3, 1, 0, 1));
            Twins.index("the 41st by none", LoanEdges::forty, hub -> hub.lend(none, 1, 1, 0, 1));
            Twins.index("the 41st to none", LoanEdges::forty, hub -> hub.lend(0, none, 1, 0, 1));
            Twins.index("by none for too few papers", Twins::busy, hub -> hub.lend(none, 2, 1, 0, 31));
            Twins.index("by none for no papers", Twins::busy, hub -> hub.lend(none, 2, 1, 0, 0));
            Twins.index("by a poor bank to none", Twins::busy, hub -> hub.lend(4, none, 1, 0, 1));
        }
    }

    /** Each argument out of its range, in each state that refuses the call by itself. */
    private static void promise18ArgumentAheadOfState() {
        wrongArguments("the lender closed", Twins::busy, 3, 2, 1);
        wrongArguments("the borrower closed", Twins::busy, 0, 3, 1);
        wrongArguments("forty loans", LoanEdges::forty, 0, 1, 1);
        wrongArguments("too few papers", Twins::busy, 0, 2, 31);
        wrongArguments("worth nothing", Twins::busy, 0, 2, 0);
        wrongArguments("the lender poor", Twins::busy, 4, 2, 1);
    }

    private static void wrongArguments(String what, Twins.Recipe recipe, int lender, int borrower, int papers) {
        Twins.state(what, recipe, hub -> hub.lend(lender, borrower, 1, 0, papers));
        Twins.argument(what + ", to itself", recipe, hub -> hub.lend(lender, lender, 1, 0, papers));
        Twins.argument(what + ", to itself too", recipe, hub -> hub.lend(borrower, borrower, 1, 0, papers));
        Twins.argument(what + ", nothing", recipe, hub -> hub.lend(lender, borrower, 0, 0, papers));
        Twins.argument(what + ", too much", recipe, hub -> hub.lend(lender, borrower, 100001, 0, papers));
        Twins.argument(what + ", no rate", recipe, hub -> hub.lend(lender, borrower, 1, -1, papers));
        Twins.argument(what + ", too high a rate", recipe, hub -> hub.lend(lender, borrower, 1, 201, papers));
        Twins.argument(what + ", less than no papers", recipe, hub -> hub.lend(lender, borrower, 1, 0, -1));
        Twins.argument(what + ", too many papers", recipe, hub -> hub.lend(lender, borrower, 1, 0, 1001));
    }

    private static void promise19EmptyAndFull() {
        Twins.asks("loans of a new hub", 0, Queuefloat::new, Queuefloat::loans);
        Twins.asks("loans where one is not repaid", 1, Twins::busy, Queuefloat::loans);
        Twins.asks("forty loans", 40, LoanEdges::forty, Queuefloat::loans);
        Twins.asks("loans where forty are repaid", 0, LoanEdges::fortyRepaid, Queuefloat::loans);
        Twins.asks("loans where one ended by a sale", 0, LoanEdges::closedWithMeans, Queuefloat::loans);
        Queuefloat hub = withPapers(100);
        for (int loan = 0; loan < 40; loan++) {
            hub.lend(0, 1, 1, 0, 1);
            Check.due("loans", loan + 1, hub.loans());
        }
        Check.state("the 41st", () -> hub.lend(0, 1, 1, 0, 1));
        Check.due("the 41st does not count", 40, hub.loans());
    }

    private static void promise20NoLoans() {
        Twins.asks("a morning of a new hub", 0, Queuefloat::new, Queuefloat::morning);
        Twins.asks("a morning where forty are repaid", 0, LoanEdges::fortyRepaid, Queuefloat::morning);
        Twins.asks("a morning behind a closing", 0, LoanEdges::closedWithMeans, Queuefloat::morning);
    }

    private static void promise20BoundsBeginAnew() {
        Queuefloat hub = BankEdges.paidToTheBound();
        hub.pay(0, 1, 500, 0);
        Check.due("at the bound", Queuefloat.OVER, hub.why(10));
        Check.due("a morning", 0, hub.morning());
        Check.due("nothing paid", 0, hub.paid(0, 1));
        Check.due("nothing paid", 0, hub.paid(1, 0));
        Check.due("within the bound anew", Queuefloat.FREE, hub.why(10));
        Check.due("a morning runs no queues", 500, hub.account(0));
        Check.due("one goes", 1, hub.run());
        Check.due("paid since the morning", 500, hub.paid(0, 1));
        Check.due("a bound stays", 1000000, hub.setBound(0, 1, 500));
        hub.morning();
        Check.due("a bound stays", 500, hub.setBound(0, 1, 0));
    }

    /** Bank 1 has what it borrowed and the extra; it owes 1100. */
    private static Queuefloat owing(int extra, int floor) {
        Queuefloat hub = withPapers(20);
        hub.fund(1, extra);
        hub.lend(0, 1, 1000, 100, 13);
        hub.setFloor(1, floor);
        return hub;
    }

    private static void promise20RepaidAtTheFloor() {
        Twins.answers("down to 0", 0, () -> owing(100, 0), Queuefloat::morning);
        Twins.answers("below 0", 1, () -> owing(99, 0), Queuefloat::morning);
        Twins.answers("down to the floor", 0, () -> owing(1, -99), Queuefloat::morning);
        Twins.answers("below the floor", 1, () -> owing(1, -98), Queuefloat::morning);
        Queuefloat hub = owing(1, -99);
        hub.morning();
        Check.due("down to the floor", -99, hub.account(1));
        Check.due("down to the floor", 20, hub.papers(1));
        Check.due("down to the floor", true, hub.isOpen(1));
        Queuefloat poor = owing(1, -98);
        poor.morning();
        Check.due("below the floor", 1001 + 1300 - 1100, poor.account(1));
        Check.due("below the floor", 7, poor.papers(1));
        Check.due("below the floor", false, poor.isOpen(1));
        Check.due("below the floor", 100100, poor.account(0));
    }

    private static void interest(int amount, int rate, int want) {
        Queuefloat hub = withPapers(1000);
        hub.setPrice(1000, 0);
        hub.fund(1, 100000);
        hub.lend(0, 1, amount, rate, 1000);
        hub.morning();
        Check.due("interest of " + amount + " at " + rate, 100000 + want, hub.account(0));
        Check.due("interest of " + amount + " at " + rate, 100000 - want, hub.account(1));
    }

    private static void promise20InterestRoundedDown() {
        interest(1, 0, 0);
        interest(1, 200, 0);
        interest(4, 200, 0);
        interest(5, 200, 1);
        interest(999, 1, 0);
        interest(1000, 1, 1);
        interest(1001, 1, 1);
        interest(100000, 0, 0);
        interest(100000, 1, 100);
        interest(100000, 199, 19900);
        interest(100000, 200, 20000);
        interest(99999, 200, 19999);
    }

    /** Bank 1 owes 110 and has 100; its ten pledged papers are sold for the price. */
    private static void sale(int price, int toLender, int toBorrower) {
        Queuefloat hub = withPapers(10);
        hub.lend(0, 1, 100, 100, 10);
        hub.setPrice(price, 1000);
        Check.due("closed at " + price, 1, hub.morning());
        Check.due("the lender at " + price, 99900 + toLender, hub.account(0));
        Check.due("the borrower at " + price, 100 + toBorrower, hub.account(1));
        Check.due("sold at " + price, 10 * price, hub.sold());
        Check.due("pledged papers at " + price, 0, hub.papers(1));
    }

    private static void promise20WhatTheLenderGets() {
        sale(1, 10, 0);
        sale(10, 100, 0);
        sale(11, 110, 0);
        sale(12, 110, 10);
        sale(1000, 110, 9890);
    }

    /** Each bank lends its 100 to the next one at 200 thousandths, for two papers worth little then. */
    private static Queuefloat ringOfLoans() {
        Queuefloat hub = new Queuefloat();
        for (int bank = 0; bank < 5; bank++) {
            hub.fund(bank, 100);
            hub.givePapers(bank, 3);
        }
        for (int bank = 0; bank < 5; bank++) {
            hub.lend(bank, (bank + 1) % 5, 100, 200, 2);
        }
        hub.setPrice(1, 0);
        return hub;
    }

    private static void promise20AllClose() {
        Queuefloat hub = ringOfLoans();
        Check.due("all five close", 5, hub.morning());
        for (int i = 0; i < 5; i++) {
            int bank = i;
            Check.due("all five close", false, hub.isOpen(bank));
            Check.due("closed lenders get their money", 102, hub.account(bank));
            Check.due("closed banks keep what is not pledged", 1, hub.papers(bank));
            Check.state("no money for them", () -> hub.fund(bank, 1));
            Check.state("no papers for them", () -> hub.givePapers(bank, 1));
            Check.state("no payments", () -> hub.pay(bank, (bank + 1) % 5, 1, 0));
            Check.state("no loans", () -> hub.lend(bank, (bank + 1) % 5, 1, 0, 1));
        }
        Check.due("ten papers sold", 10, hub.sold());
        Check.due("no one is left to close", 0, hub.morning());
        Check.due("nothing goes", 0, hub.run());
        Check.due("nothing can", false, hub.canAny());
    }

    /** The second loan of bank 1 it could repay, from what the sale brought, were it not closed. */
    private static void promise20ClosedAlready() {
        Queuefloat hub = withPapers(30);
        hub.fund(2, 1000);
        hub.lend(0, 1, 1000, 200, 20);
        hub.lend(2, 1, 10, 0, 1);
        hub.pay(1, 3, 900, 0);
        hub.run();
        Check.due("one is closed", 1, hub.morning());
        Check.due("its papers are sold", 2100, hub.sold());
        Check.due("the second lender gets its due", 1000, hub.account(2));
        Check.due("the rests are the borrower's", 110 + 800 + 90, hub.account(1));
        Check.due("no papers come back", 9, hub.papers(1));
        Queuefloat late = closedWithMeans();
        late.givePapers(3, 2);
        late.lend(0, 3, 100, 200, 2);
        Check.due("only the closings of this morning count", 1, late.morning());
        Check.due("a third morning", 0, late.morning());
    }

    private static void promise20PastTheTop() {
        Queuefloat hub = new Queuefloat();
        for (int i = 0; i < 100; i++) {
            hub.fund(0, 1000000);
        }
        hub.givePapers(1, 1000);
        hub.setPrice(1000, 0);
        hub.fund(1, 20000);
        hub.lend(0, 1, 100000, 200, 1000);
        hub.fund(0, 100000);
        Check.due("repaid past the top", 0, hub.morning());
        Check.due("repaid past the top", 100120000, hub.account(0));
        Check.state("no more funds past the top", () -> hub.fund(0, 1));
        hub.givePapers(0, 1);
        hub.fund(2, 500);
        Check.due("lent past the top", 1, hub.lend(2, 0, 500, 0, 1));
        Check.due("lent past the top", 100120500, hub.account(0));
    }

    /** Each bank has a payment to each other one when the one closes. */
    private static void promise20WhatIsDropped() {
        for (int poor = 0; poor < 5; poor++) {
            Queuefloat hub = new Queuefloat();
            int rich = (poor + 1) % 5;
            hub.fund(rich, 100);
            hub.givePapers(poor, 2);
            hub.lend(rich, poor, 100, 200, 2);
            for (int pair = 0; pair < 20; pair++) {
                hub.pay(pair / 4, (pair / 4 + 1 + pair % 4) % 5, 99999, 0);
            }
            Check.due("closed " + poor, 1, hub.morning());
            int waiting = 0;
            for (int pair = 0; pair < 20; pair++) {
                boolean dropped = pair / 4 == poor || (pair / 4 + 1 + pair % 4) % 5 == poor;
                Check.due("payment " + pair + " where " + poor + " is closed",
                        dropped ? Queuefloat.GONE : Queuefloat.SHORT, hub.why(pair));
                waiting = dropped ? waiting : pair;
            }
            Check.due("twelve waited", 11, hub.drop(waiting));
        }
    }

    private static void promise21EmptyAndFull() {
        Twins.asks("sold of a new hub", 0, Queuefloat::new, Queuefloat::sold);
        Twins.asks("sold where forty are repaid", 0, LoanEdges::fortyRepaid, Queuefloat::sold);
        Twins.asks("sold where one closed", 1000, Twins::busy, Queuefloat::sold);
        Queuefloat hub = new Queuefloat();
        for (int i = 0; i < 40; i++) {
            hub.givePapers(1, 1000);
        }
        hub.fund(0, 40);
        hub.setPrice(1000, 0);
        for (int loan = 0; loan < 40; loan++) {
            hub.lend(0, 1, 1, 200, 1000);
        }
        hub.pay(1, 2, 40, 0);
        hub.run();
        Check.due("forty loans fail", 1, hub.morning());
        Check.due("the most that can be sold", 40000000, hub.sold());
        Check.due("the lender", 40, hub.account(0));
        Check.due("the borrower", 39999960, hub.account(1));
        Check.due("no papers are left", 0, hub.papers(1));
    }
}
