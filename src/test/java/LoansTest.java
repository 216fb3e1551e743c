/** Promises 17 to 21: prices, loans and mornings. */
final class LoansTest {
    private LoansTest() {
    }

    static void all() {
        promise17SetPrice();
        promise18Lend();
        promise18WrongLend();
        promise18Refused();
        promise18ClosedBanks();
        promise18FortyLoans();
        promise19Loans();
        promise20MorningRepays();
        promise20MorningCloses();
        promise20RepaysInOrder();
        promise20ClosedAlready();
        promise20ClosedLender();
        promise20DropsPayments();
        promise20DropsTheSixtieth();
        promise20LargeSums();
        promise21Sold();
    }

    private static Queuefloat withPapers(int papers) {
        Queuefloat hub = new Queuefloat();
        hub.fund(0, 100000);
        hub.givePapers(1, papers);
        return hub;
    }

    private static void promise17SetPrice() {
        Queuefloat hub = withPapers(100);
        for (int price : new int[] {0, -1, 1001, Integer.MIN_VALUE, Integer.MAX_VALUE}) {
            Check.argument("setPrice " + price, () -> priced(hub, price, 0));
        }
        for (int cut : new int[] {-1, 1001, Integer.MIN_VALUE, Integer.MAX_VALUE}) {
            Check.argument("setPrice with cut " + cut, () -> priced(hub, 1, cut));
        }
        Check.state("a refused price changes nothing", () -> hub.lend(0, 1, 81, 0, 1));
        Check.due("a refused price changes nothing", 0, hub.lend(0, 1, 80, 0, 1));
        hub.setPrice(1, 0);
        Check.state("worth at the least price", () -> hub.lend(0, 1, 4, 0, 3));
        Check.due("worth at the least price", 1, hub.lend(0, 1, 3, 0, 3));
        hub.setPrice(1000, 999);
        Check.state("worth at the top price", () -> hub.lend(0, 1, 6, 0, 5));
        Check.due("worth at the top price", 2, hub.lend(0, 1, 5, 0, 5));
        hub.setPrice(1000, 1000);
        Check.state("worth of nothing", () -> hub.lend(0, 1, 1, 0, 50));
        hub.setPrice(3, 500);
        Check.state("worth rounded down", () -> hub.lend(0, 1, 5, 0, 3));
        Check.due("worth rounded down", 3, hub.lend(0, 1, 4, 0, 3));
    }

    private static long priced(Queuefloat hub, int price, int cut) {
        hub.setPrice(price, cut);
        return 0;
    }

    private static void promise18Lend() {
        Queuefloat hub = withPapers(100);
        Check.due("the first loan", 0, hub.lend(0, 1, 800, 200, 10));
        Check.due("the account of the lender", 99200, hub.account(0));
        Check.due("the account of the borrower", 800, hub.account(1));
        Check.due("the papers of the borrower", 90, hub.papers(1));
        Check.due("the papers of the lender", 0, hub.papers(0));
        hub.givePapers(4, 1);
        Check.due("the next loan", 1, hub.lend(1, 4, 1, 0, 1));
        Check.due("a loan that waits for no run", 799, hub.account(1));
        hub.setBound(0, 1, 0);
        Check.due("a loan is not bound", 2, hub.lend(0, 1, 100, 0, 90));
    }

    private static void promise18WrongLend() {
        Queuefloat hub = BanksTest.withBank1Closed();
        hub.givePapers(2, 1000);
        for (int bank : new int[] {-1, 5, Integer.MIN_VALUE, Integer.MAX_VALUE}) {
            Check.index("lend by " + bank, () -> hub.lend(bank, 0, 1, 0, 1));
            Check.index("lend to " + bank, () -> hub.lend(0, bank, 1, 0, 1));
            Check.index("lend by none to none", () -> hub.lend(bank, bank, 0, 201, 1001));
            Check.index("lend by a closed bank to none", () -> hub.lend(1, bank, 1, 0, 1));
        }
        Check.argument("lend to itself", () -> hub.lend(0, 0, 1, 0, 1));
        Check.argument("a closed bank to itself", () -> hub.lend(1, 1, 1, 0, 1));
        for (int amount : new int[] {0, -1, 100001, Integer.MIN_VALUE, Integer.MAX_VALUE}) {
            Check.argument("lend " + amount, () -> hub.lend(0, 2, amount, 0, 1));
        }
        for (int rate : new int[] {-1, 201, Integer.MIN_VALUE, Integer.MAX_VALUE}) {
            Check.argument("lend at " + rate, () -> hub.lend(0, 2, 1, rate, 1));
        }
        for (int papers : new int[] {-1, 1001, Integer.MIN_VALUE, Integer.MAX_VALUE}) {
            Check.argument("lend for " + papers, () -> hub.lend(0, 2, 1, 0, papers));
        }
        Check.argument("no rate for a closed bank", () -> hub.lend(0, 1, 1, 201, 1));
        Check.state("lend by a closed bank", () -> hub.lend(1, 2, 1, 0, 1));
        Check.state("lend to a closed bank", () -> hub.lend(0, 1, 1, 0, 0));
        Check.due("lend at the edges", 1, hub.lend(0, 2, 1, 200, 1000));
    }

    private static void promise18Refused() {
        Queuefloat hub = new Queuefloat();
        hub.fund(0, 100);
        hub.givePapers(1, 5);
        Check.state("fewer papers", () -> hub.lend(0, 1, 10, 0, 6));
        Check.state("not worth the amount", () -> hub.lend(0, 1, 81, 0, 1));
        Check.state("no papers are worth nothing", () -> hub.lend(0, 1, 1, 0, 0));
        Check.state("the lender below its floor", () -> hub.lend(0, 1, 101, 0, 5));
        Check.due("refused loans change nothing", 100, hub.account(0));
        Check.due("refused loans change nothing", 5, hub.papers(1));
        Check.due("refused loans change nothing", 0, hub.loans());
        hub.setFloor(0, -1);
        Check.due("the lender at its floor", 0, hub.lend(0, 1, 101, 0, 2));
        Check.state("pledged ones are not there", () -> hub.lend(0, 1, 1, 0, 4));
        Check.state("the lender at its floor lends no more", () -> hub.lend(0, 1, 1, 0, 3));
    }

    /** The closed bank has money and papers enough: that it is closed is all that is in the way. */
    private static void promise18ClosedBanks() {
        Queuefloat hub = withPapers(20);
        hub.givePapers(2, 5);
        hub.lend(0, 1, 100, 200, 5);
        hub.morning();
        Check.due("the closed bank has money", 100 + 380, hub.account(1));
        Check.due("the closed bank has papers", 15, hub.papers(1));
        Check.state("lend by a closed bank with money", () -> hub.lend(1, 2, 10, 0, 5));
        Check.state("lend to a closed bank with papers", () -> hub.lend(0, 1, 10, 0, 5));
        Check.due("lend among open banks", 1, hub.lend(0, 2, 10, 0, 5));
    }

    private static void promise18FortyLoans() {
        Queuefloat hub = withPapers(100);
        for (int loan = 0; loan < 20; loan++) {
            Check.due("loan", loan, hub.lend(0, 1, 1, 0, 1));
        }
        hub.morning();
        for (int loan = 20; loan < 40; loan++) {
            Check.due("loan", loan, hub.lend(0, 1, 1, 0, 1));
        }
        Check.state("loan 41", () -> hub.lend(0, 1, 1, 0, 1));
        Check.argument("loan 41 to itself", () -> hub.lend(0, 0, 1, 0, 1));
        Check.due("twenty are not repaid", 20, hub.loans());
        Check.due("morning repays all", 0, hub.morning());
        Check.state("a morning makes no room", () -> hub.lend(0, 1, 1, 0, 1));
        Check.due("a loan repaid once only", 100000, hub.account(0));
        Check.due("papers back once only", 100, hub.papers(1));
    }

    private static void promise19Loans() {
        Queuefloat hub = withPapers(10);
        hub.lend(0, 1, 10, 0, 1);
        hub.lend(0, 1, 10, 0, 1);
        Check.due("loans", 2, hub.loans());
        hub.pay(1, 2, 15, 0);
        hub.run();
        Check.due("payments leave loans as they are", 2, hub.loans());
        Check.due("the first loan fails", 1, hub.morning());
        Check.due("loans behind a morning", 0, hub.loans());
    }

    private static void promise20MorningRepays() {
        Queuefloat hub = withPapers(10);
        Check.due("a morning without loans", 0, hub.morning());
        hub.lend(0, 1, 199, 50, 4);
        hub.fund(1, 9);
        Check.due("a morning that repays", 0, hub.morning());
        Check.due("interest is rounded down", 100009, hub.account(0));
        Check.due("interest is rounded down", 0, hub.account(1));
        Check.due("papers come back", 10, hub.papers(1));
        Check.due("nothing is sold", 0, hub.sold());
        hub.setFloor(1, -7);
        hub.lend(0, 1, 100, 70, 10);
        Check.due("repaid down to the floor", 0, hub.morning());
        Check.due("repaid down to the floor", -7, hub.account(1));
        Check.due("repaid down to the floor", 100016, hub.account(0));
        Check.due("the bank is still open", true, hub.isOpen(1));
    }

    private static void promise20MorningCloses() {
        Queuefloat hub = withPapers(10);
        hub.setFloor(1, -6);
        hub.lend(0, 1, 100, 70, 5);
        hub.setPrice(30, 1000);
        Check.due("below the floor by one", 1, hub.morning());
        Check.due("closed", false, hub.isOpen(1));
        Check.due("papers sold at the price without the cut", 150, hub.sold());
        Check.due("the lender gets what was due", 100007, hub.account(0));
        Check.due("the borrower gets the rest", 143, hub.account(1));
        Check.due("pledged papers are gone", 5, hub.papers(1));
        Check.due("closed but once", 0, hub.morning());
        Check.due("sold but once", 150, hub.sold());
        Queuefloat poor = withPapers(10);
        poor.lend(0, 1, 400, 0, 5);
        poor.pay(1, 2, 1, 0);
        poor.run();
        poor.setPrice(79, 0);
        Check.due("papers that are worth too little", 1, poor.morning());
        Check.due("the lender gets what they bring", 99995, poor.account(0));
        Check.due("the borrower keeps its account", 399, poor.account(1));
    }

    /** The loan from 0 to 1 is repaid first, and bank 1 then lacks what it owes bank 2. */
    private static void promise20RepaysInOrder() {
        Queuefloat hub = withPapers(20);
        hub.fund(2, 100);
        hub.lend(0, 1, 100, 0, 2);
        hub.lend(2, 1, 100, 0, 2);
        hub.pay(1, 3, 50, 0);
        hub.run();
        Check.due("one closes", 1, hub.morning());
        Check.due("the first loan is repaid", 100000, hub.account(0));
        Check.due("the second takes the papers", 100, hub.account(2));
        Check.due("the second takes the papers", 150, hub.account(1));
        Check.due("the second takes the papers", 18, hub.papers(1));
        Queuefloat chain = withPapers(20);
        chain.givePapers(2, 10);
        chain.lend(0, 1, 100, 0, 2);
        chain.lend(1, 2, 100, 0, 2);
        Check.due("a chain too early for its money", 1, chain.morning());
        Check.due("bank 1 had lent it on", false, chain.isOpen(1));
        Check.due("bank 2 repays a closed bank", true, chain.isOpen(2));
        Check.due("bank 2 repays a closed bank", 200, chain.account(1));
        Queuefloat turned = withPapers(20);
        turned.givePapers(2, 10);
        turned.fund(1, 100);
        turned.lend(1, 2, 100, 0, 2);
        turned.lend(0, 1, 100, 0, 2);
        turned.pay(1, 3, 100, 0);
        turned.run();
        Check.due("a chain in time for its money", 0, turned.morning());
        Check.due("a chain in time for its money", 100000, turned.account(0));
    }

    private static void promise20ClosedAlready() {
        Queuefloat hub = withPapers(20);
        hub.fund(4, 1000);
        hub.lend(0, 1, 300, 0, 10);
        hub.lend(4, 1, 30, 0, 1);
        hub.pay(1, 2, 100, 0);
        hub.run();
        Check.due("counts a bank once", 1, hub.morning());
        Check.due("a closed bank does not repay, its papers are sold", 1100, hub.sold());
        Check.due("the second lender gets its due", 1000, hub.account(4));
        Check.due("the borrower gets both rests", 230 + 700 + 70, hub.account(1));
        Check.due("the papers not pledged stay", 9, hub.papers(1));
    }

    private static void promise20ClosedLender() {
        Queuefloat hub = withPapers(20);
        hub.givePapers(2, 10);
        hub.givePapers(3, 10);
        hub.lend(0, 1, 500, 0, 10);
        hub.lend(1, 2, 200, 100, 5);
        hub.lend(1, 3, 200, 100, 5);
        hub.fund(2, 20);
        hub.setPrice(10, 0);
        Check.due("the lender and one borrower close", 2, hub.morning());
        Check.due("a closed lender is repaid, and gets from papers", 100 + 220 + 50, hub.account(1));
        Check.due("the borrower that repays", 0, hub.account(2));
        Check.due("the borrower that repays", 10, hub.papers(2));
        Check.due("the borrower that closes", 200, hub.account(3));
        Check.due("sold", 150, hub.sold());
        Check.due("the lender that stays open", 99600, hub.account(0));
    }

    private static void promise20DropsPayments() {
        Queuefloat hub = withPapers(20);
        hub.lend(0, 1, 100, 200, 2);
        hub.pay(1, 2, 9000, 0);
        hub.pay(2, 1, 9000, 1);
        hub.pay(2, 3, 9000, 0);
        hub.pay(0, 2, 100, 0);
        hub.pay(0, 1, 1, 2);
        Check.due("closed by the interest", 1, hub.morning());
        Check.due("its own are dropped", Queuefloat.GONE, hub.why(0));
        Check.due("those to it are dropped", Queuefloat.GONE, hub.why(1));
        Check.due("those to it are dropped", Queuefloat.GONE, hub.why(4));
        Check.due("those of others wait", 2, hub.queued(2, 0));
        Check.due("those of others wait", 3, hub.queued(0, 0));
        Check.due("two wait", 1, hub.drop(2));
        Check.due("one goes", 1, hub.run());
        Check.due("nothing came to the closed bank", 100 + 80, hub.account(1));
    }

    private static void promise20DropsTheSixtieth() {
        Queuefloat hub = withPapers(20);
        hub.lend(0, 1, 100, 200, 2);
        for (int payment = 0; payment < 60; payment++) {
            hub.pay(1 + payment % 2, 3, 9000, 0);
        }
        Check.due("closed with sixty payments", 1, hub.morning());
        Check.due("the last of another waits", Queuefloat.SHORT, hub.why(59));
        Check.due("the last of the closed one is dropped", Queuefloat.GONE, hub.why(58));
        Check.due("thirty wait", 29, hub.drop(59));
        Queuefloat last = withPapers(20);
        last.lend(0, 1, 100, 200, 2);
        for (int payment = 0; payment < 60; payment++) {
            last.pay(payment < 59 ? 2 : 1, 3, 9000, 0);
        }
        last.morning();
        Check.due("the very last is dropped", Queuefloat.GONE, last.why(59));
    }

    private static void promise20LargeSums() {
        Queuefloat hub = withPapers(1000);
        hub.setPrice(1000, 0);
        Check.due("the largest loan", 0, hub.lend(0, 1, 100000, 200, 1000));
        Check.due("closed by the interest", 1, hub.morning());
        Check.due("the largest sale", 1000000, hub.sold());
        Check.due("the lender gets its interest", 120000, hub.account(0));
        Check.due("the borrower gets the rest", 980000, hub.account(1));
    }

    private static void promise21Sold() {
        Queuefloat hub = withPapers(20);
        hub.givePapers(2, 10);
        hub.lend(0, 1, 100, 200, 5);
        hub.lend(0, 2, 100, 200, 3);
        Check.due("nothing sold by lending", 0, hub.sold());
        hub.morning();
        Check.due("sold in one morning", 800, hub.sold());
        hub.givePapers(3, 10);
        hub.lend(0, 3, 100, 200, 2);
        hub.fund(3, 20);
        hub.morning();
        Check.due("nothing sold by repaying", 800, hub.sold());
        hub.lend(0, 3, 100, 200, 2);
        hub.setPrice(7, 0);
        hub.morning();
        Check.due("sold in all", 814, hub.sold());
    }
}
