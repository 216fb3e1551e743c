/**
 * A hub of payments beside a market of overnight loans, for the five banks 0 to 4.
 *
 * <p>All rows are made once, by the constructor: no call makes an object.
 */
public final class Queuefloat {
    public static final int NONE = -1;
    public static final int FREE = 0, SHORT = 1, OVER = 2, GONE = 3;

    private static final int BANKS = 5;
    private static final int MAX_FUNDS = 1000000;
    private static final int MAX_ACCOUNT = 100000000;
    private static final int MIN_FLOOR = -1000000;
    private static final int MAX_BOUND = 1000000;
    private static final int MAX_GIFT = 1000;
    private static final int MAX_PAPERS = 100000;
    private static final int MAX_PAYMENTS = 60;
    private static final int MAX_AMOUNT = 100000;
    private static final int MAX_PRIORITY = 2;
    private static final int MAX_SMALL = 100000;
    private static final int MAX_TRIED = 10;
    private static final int MAX_PRICE = 1000;
    private static final int MAX_LOANS = 40;
    private static final int MAX_RATE = 200;
    private static final int MAX_PLEDGE = 1000;
    private static final int THOUSAND = 1000;

    private final Sums sums;
    private final Sums trial;
    private final Limits limits;
    private final Payments payments;
    private final Loans market;
    private final boolean[] closed;
    private final int[] papersOf;
    private final int[] candidates;
    private int small;
    private int paperPrice;
    private int paperCut;
    private int proceeds;

    public Queuefloat() {
        sums = new Sums();
        trial = new Sums();
        limits = new Limits();
        payments = new Payments();
        market = new Loans();
        closed = new boolean[BANKS];
        papersOf = new int[BANKS];
        candidates = new int[MAX_TRIED];
        small = 100;
        paperPrice = 100;
        paperCut = 200;
    }

    // ---- banks

    public int fund(int bank, int cents)
            throws IndexOutOfBoundsException, IllegalArgumentException, IllegalStateException {
        requireBank(bank);
        requireRange(cents, 1, MAX_FUNDS);
        requireOpen(bank);
        if (sums.accountOf[bank] + cents > MAX_ACCOUNT) {
            throw new IllegalStateException("the account would be too large");
        }
        sums.accountOf[bank] += cents;
        return sums.accountOf[bank];
    }

    public int setFloor(int bank, int floor) throws IndexOutOfBoundsException, IllegalArgumentException {
        requireBank(bank);
        requireRange(floor, MIN_FLOOR, Math.min(0, sums.accountOf[bank]));
        int before = limits.floorOf[bank];
        limits.floorOf[bank] = floor;
        return before;
    }

    public int setBound(int bank, int other, int bound)
            throws IndexOutOfBoundsException, IllegalArgumentException {
        requireBank(bank);
        requireBank(other);
        requireTwo(bank, other);
        int pair = pairOf(bank, other);
        requireRange(bound, Math.max(0, sums.netPaid[pair]), MAX_BOUND);
        int before = limits.boundOf[pair];
        limits.boundOf[pair] = bound;
        return before;
    }

    public int givePapers(int bank, int papers)
            throws IndexOutOfBoundsException, IllegalArgumentException, IllegalStateException {
        requireBank(bank);
        requireRange(papers, 1, MAX_GIFT);
        requireOpen(bank);
        if (papersOf[bank] + papers > MAX_PAPERS) {
            throw new IllegalStateException("the bank would have too many papers");
        }
        papersOf[bank] += papers;
        return papersOf[bank];
    }

    public int account(int bank) throws IndexOutOfBoundsException {
        requireBank(bank);
        return sums.accountOf[bank];
    }

    public int papers(int bank) throws IndexOutOfBoundsException {
        requireBank(bank);
        return papersOf[bank];
    }

    public boolean isOpen(int bank) throws IndexOutOfBoundsException {
        requireBank(bank);
        return !closed[bank];
    }

    public int paid(int bank, int other) throws IndexOutOfBoundsException {
        requireBank(bank);
        requireBank(other);
        return sums.netPaid[pairOf(bank, other)];
    }

    // ---- payments

    public int pay(int from, int to, int amount, int priority)
            throws IndexOutOfBoundsException, IllegalArgumentException, IllegalStateException {
        requireBank(from);
        requireBank(to);
        requireTwo(from, to);
        requireRange(amount, 1, MAX_AMOUNT);
        requireRange(priority, 0, MAX_PRIORITY);
        requireOpen(from);
        requireOpen(to);
        if (payments.made >= MAX_PAYMENTS) {
            throw new IllegalStateException("there are no more payments to be had");
        }
        return payments.enter(from, to, amount, priority);
    }

    public int drop(int payment) throws IndexOutOfBoundsException, IllegalStateException {
        requirePayment(payment);
        if (!payments.waits[payment]) {
            throw new IllegalStateException("the payment does not wait");
        }
        payments.waits[payment] = false;
        return payments.countWaiting();
    }

    public int setSmall(int bound) throws IllegalArgumentException {
        requireRange(bound, 0, MAX_SMALL);
        int before = small;
        small = bound;
        return before;
    }

    public int run() {
        int gone = 0;
        // Each round but the last sends a payment, so there are at most one more than payments.
        for (int round = 0; round <= MAX_PAYMENTS; round++) {
            int sent = goThroughBanks();
            if (sent == 0) {
                sent = sendLargestSet();
            }
            if (sent == 0) {
                return gone;
            }
            gone += sent;
        }
        return gone;
    }

    public int queued(int bank, int place) throws IndexOutOfBoundsException {
        requireBank(bank);
        if (place < 0) {
            throw new IndexOutOfBoundsException("there is no such place");
        }
        return payments.inQueue(bank, place);
    }

    public int why(int payment) throws IndexOutOfBoundsException {
        requirePayment(payment);
        return obstacle(payment);
    }

    public boolean canAny() throws IllegalStateException {
        if (payments.countWaiting() > MAX_TRIED) {
            throw new IllegalStateException("too many payments wait");
        }
        int count = listWaiting();
        for (int set = 1; set < 1 << count; set++) {
            if (canGoTogether(set, count)) {
                return true;
            }
        }
        return false;
    }

    // ---- loans and mornings

    public void setPrice(int price, int cut) throws IllegalArgumentException {
        requireRange(price, 1, MAX_PRICE);
        requireRange(cut, 0, THOUSAND);
        paperPrice = price;
        paperCut = cut;
    }

    public int lend(int lender, int borrower, int amount, int rate, int papers)
            throws IndexOutOfBoundsException, IllegalArgumentException, IllegalStateException {
        requireBank(lender);
        requireBank(borrower);
        requireTwo(lender, borrower);
        requireRange(amount, 1, MAX_AMOUNT);
        requireRange(rate, 0, MAX_RATE);
        requireRange(papers, 0, MAX_PLEDGE);
        requireOpen(lender);
        requireOpen(borrower);
        requireLoanable(lender, borrower, amount, papers);
        sums.move(lender, borrower, amount);
        papersOf[borrower] -= papers;
        return market.enter(lender, borrower, amount + amount * rate / THOUSAND, papers);
    }

    public int loans() {
        return market.made - market.ended;
    }

    public int morning() {
        sums.forgetPaid();
        int closings = 0;
        for (int loan = market.ended; loan < market.made; loan++) {
            if (canRepay(loan)) {
                repay(loan);
            } else {
                closings += close(market.borrower[loan]);
                sellPledge(loan);
            }
        }
        market.ended = market.made;
        return closings;
    }

    public int sold() {
        return proceeds;
    }

    // ---- what calls require

    private static void requireBank(int bank) {
        if (bank < 0 || bank >= BANKS) {
            throw new IndexOutOfBoundsException("there is no such bank");
        }
    }

    private static void requireTwo(int bank, int other) {
        if (bank == other) {
            throw new IllegalArgumentException("both banks are the same");
        }
    }

    private static void requireRange(int value, int least, int most) {
        if (value < least || value > most) {
            throw new IllegalArgumentException("a value is out of range");
        }
    }

    private void requireOpen(int bank) {
        if (closed[bank]) {
            throw new IllegalStateException("the bank is closed");
        }
    }

    private void requirePayment(int payment) {
        if (payment < 0 || payment >= payments.made) {
            throw new IndexOutOfBoundsException("there is no such payment");
        }
    }

    private void requireLoanable(int lender, int borrower, int amount, int pledge) {
        if (market.made >= MAX_LOANS) {
            throw new IllegalStateException("there are no more loans to be had");
        }
        if (papersOf[borrower] < pledge || pledgeWorth(pledge) < amount) {
            throw new IllegalStateException("the pledge does not cover the loan");
        }
        if (sums.accountOf[lender] - amount < limits.floorOf[lender]) {
            throw new IllegalStateException("the lender would be below its floor");
        }
    }

    // ---- how payments go

    /** The place of two banks in the rows that hold a number for each pair of banks. */
    private static int pairOf(int bank, int other) {
        return bank * BANKS + other;
    }

    private int obstacle(int payment) {
        if (!payments.waits[payment]) {
            return GONE;
        }
        int from = payments.from[payment];
        int amount = payments.amount[payment];
        if (sums.accountOf[from] - amount < limits.floorOf[from]) {
            return SHORT;
        }
        int pair = pairOf(from, payments.to[payment]);
        return sums.netPaid[pair] + amount > limits.boundOf[pair] ? OVER : FREE;
    }

    private void send(int payment) {
        payments.apply(payment, sums);
        payments.waits[payment] = false;
    }

    private int goThroughBanks() {
        int sent = 0;
        for (int bank = 0; bank < BANKS; bank++) {
            int payment = nextToGo(bank);
            if (payment != NONE) {
                send(payment);
                sent++;
            }
        }
        return sent;
    }

    private int nextToGo(int bank) {
        int first = payments.inQueue(bank, 0);
        if (first == NONE || obstacle(first) == FREE) {
            return first;
        }
        return firstSmallFree(bank);
    }

    /** Called when the first of the queue cannot go: so that one need not be left out. */
    private int firstSmallFree(int bank) {
        for (int place = 0; place < payments.made; place++) {
            int payment = payments.byPriority[place];
            if (payments.waitsAt(payment, bank) && payments.amount[payment] <= small
                    && obstacle(payment) == FREE) {
                return payment;
            }
        }
        return NONE;
    }

    private int sendLargestSet() {
        for (int bank = 0; bank < BANKS; bank++) {
            candidates[bank] = payments.inQueue(bank, 0);
        }
        int best = 0;
        // Going by rising numbers and asking for more banks keeps the least number of several.
        for (int set = 1; set < 1 << BANKS; set++) {
            if (Integer.bitCount(set) > Integer.bitCount(best) && canGoTogether(set, BANKS)) {
                best = set;
            }
        }
        for (int bank = 0; bank < BANKS; bank++) {
            if (isIn(best, bank)) {
                send(candidates[bank]);
            }
        }
        return Integer.bitCount(best);
    }

    private int listWaiting() {
        int count = 0;
        for (int payment = 0; payment < payments.made && count < MAX_TRIED; payment++) {
            if (payments.waits[payment]) {
                candidates[count] = payment;
                count++;
            }
        }
        return count;
    }

    /** Whether the first candidates, as many as count, can go that are in the set. */
    private boolean canGoTogether(int set, int count) {
        trial.copy(sums);
        for (int place = 0; place < count; place++) {
            if (isIn(set, place)) {
                if (candidates[place] == NONE) {
                    return false;
                }
                payments.apply(candidates[place], trial);
            }
        }
        return limits.allow(trial);
    }

    private static boolean isIn(int set, int place) {
        return (set & (1 << place)) != 0;
    }

    // ---- how loans end

    private int pledgeWorth(int pledge) {
        return pledge * paperPrice * (THOUSAND - paperCut) / THOUSAND;
    }

    private boolean canRepay(int loan) {
        int borrower = market.borrower[loan];
        return !closed[borrower]
                && sums.accountOf[borrower] - market.due[loan] >= limits.floorOf[borrower];
    }

    private void repay(int loan) {
        int borrower = market.borrower[loan];
        sums.move(borrower, market.lender[loan], market.due[loan]);
        papersOf[borrower] += market.pledge[loan];
    }

    /** Answers how many banks this closes: none if the bank was closed already. */
    private int close(int bank) {
        if (closed[bank]) {
            return 0;
        }
        closed[bank] = true;
        payments.dropAllOf(bank);
        return 1;
    }

    private void sellPledge(int loan) {
        int price = market.pledge[loan] * paperPrice;
        int share = Math.min(price, market.due[loan]);
        sums.accountOf[market.lender[loan]] += share;
        sums.accountOf[market.borrower[loan]] += price - share;
        proceeds += price;
    }

    /** The accounts, and what each bank has paid to each other one, less what it got. */
    private static final class Sums {
        final int[] accountOf;
        final int[] netPaid;

        Sums() {
            accountOf = new int[BANKS];
            netPaid = new int[BANKS * BANKS];
        }

        void move(int from, int to, int amount) {
            accountOf[from] -= amount;
            accountOf[to] += amount;
        }

        void notePaid(int from, int to, int amount) {
            netPaid[pairOf(from, to)] += amount;
            netPaid[pairOf(to, from)] -= amount;
        }

        void forgetPaid() {
            for (int pair = 0; pair < BANKS * BANKS; pair++) {
                netPaid[pair] = 0;
            }
        }

        void copy(Sums other) {
            System.arraycopy(other.accountOf, 0, accountOf, 0, BANKS);
            System.arraycopy(other.netPaid, 0, netPaid, 0, BANKS * BANKS);
        }
    }

    /** The floors of the banks, and their bounds against each other. */
    private static final class Limits {
        final int[] floorOf;
        final int[] boundOf;

        Limits() {
            floorOf = new int[BANKS];
            boundOf = new int[BANKS * BANKS];
            for (int pair = 0; pair < BANKS * BANKS; pair++) {
                boundOf[pair] = MAX_BOUND;
            }
        }

        boolean allow(Sums sums) {
            for (int bank = 0; bank < BANKS; bank++) {
                if (sums.accountOf[bank] < floorOf[bank]) {
                    return false;
                }
            }
            for (int pair = 0; pair < BANKS * BANKS; pair++) {
                if (sums.netPaid[pair] > boundOf[pair]) {
                    return false;
                }
            }
            return true;
        }
    }

    /** The payments by their numbers, those that went or were dropped too. */
    private static final class Payments {
        final int[] from;
        final int[] to;
        final int[] amount;
        final int[] priorityOf;
        final boolean[] waits;
        /** Their numbers in the order of the queues: a queue is what waits in it with one bank. */
        final int[] byPriority;
        int made;

        Payments() {
            from = new int[MAX_PAYMENTS];
            to = new int[MAX_PAYMENTS];
            amount = new int[MAX_PAYMENTS];
            priorityOf = new int[MAX_PAYMENTS];
            waits = new boolean[MAX_PAYMENTS];
            byPriority = new int[MAX_PAYMENTS];
        }

        /** To be called while fewer than MAX_PAYMENTS are made. */
        int enter(int sender, int receiver, int cents, int priority) {
            int payment = made;
            from[payment] = sender;
            to[payment] = receiver;
            amount[payment] = cents;
            priorityOf[payment] = priority;
            waits[payment] = true;
            int place = made;
            for (; place > 0 && priorityOf[byPriority[place - 1]] < priority; place--) {
                byPriority[place] = byPriority[place - 1];
            }
            byPriority[place] = payment;
            made++;
            return payment;
        }

        void apply(int payment, Sums sums) {
            sums.move(from[payment], to[payment], amount[payment]);
            sums.notePaid(from[payment], to[payment], amount[payment]);
        }

        boolean waitsAt(int payment, int bank) {
            return waits[payment] && from[payment] == bank;
        }

        int inQueue(int bank, int place) {
            int ahead = 0;
            for (int i = 0; i < made; i++) {
                if (waitsAt(byPriority[i], bank)) {
                    if (ahead == place) {
                        return byPriority[i];
                    }
                    ahead++;
                }
            }
            return NONE;
        }

        int countWaiting() {
            int count = 0;
            for (int payment = 0; payment < made; payment++) {
                if (waits[payment]) {
                    count++;
                }
            }
            return count;
        }

        void dropAllOf(int bank) {
            for (int payment = 0; payment < made; payment++) {
                if (from[payment] == bank || to[payment] == bank) {
                    waits[payment] = false;
                }
            }
        }
    }

    /** The loans by their numbers; a morning ends all, so the ended ones come first. */
    private static final class Loans {
        final int[] lender;
        final int[] borrower;
        final int[] due;
        final int[] pledge;
        int made;
        int ended;

        Loans() {
            lender = new int[MAX_LOANS];
            borrower = new int[MAX_LOANS];
            due = new int[MAX_LOANS];
            pledge = new int[MAX_LOANS];
        }

        /** To be called while fewer than MAX_LOANS are made. */
        int enter(int giver, int taker, int sumDue, int papers) {
            int loan = made;
            lender[loan] = giver;
            borrower[loan] = taker;
            due[loan] = sumDue;
            pledge[loan] = papers;
            made++;
            return loan;
        }
    }
}
