import java.util.ArrayList;
import java.util.Comparator;
import java.util.List;

/**
 * A second reading of the document, for the random runs: it keeps no sums of what was paid but the
 * payments that went since the morning, and works out each answer anew. Of the sets of banks it
 * asks for all and sorts them as the document does.
 */
final class Model {
    private static final class Bank {
        long account;
        long floor;
        long papers;
        boolean open = true;
        long[] bounds = {1000000, 1000000, 1000000, 1000000, 1000000};
    }

    private static final class Payment {
        int number;
        int from;
        int to;
        long amount;
        int priority;
        boolean waits = true;
    }

    private static final class Loan {
        int lender;
        int borrower;
        long amount;
        long rate;
        long papers;
        boolean over;
    }

    private final List<Bank> banks = new ArrayList<>();
    private final List<Payment> payments = new ArrayList<>();
    private final List<Payment> wentToday = new ArrayList<>();
    private final List<Loan> loans = new ArrayList<>();
    private long small = 100;
    private long price = 100;
    private long cut = 200;
    private long sold;

    Model() {
        for (int i = 0; i < 5; i++) {
            banks.add(new Bank());
        }
    }

    private static void noIndex(boolean wrong) {
        if (wrong) {
            throw new IndexOutOfBoundsException();
        }
    }

    private static void noArgument(boolean wrong) {
        if (wrong) {
            throw new IllegalArgumentException();
        }
    }

    private static void noState(boolean wrong) {
        if (wrong) {
            throw new IllegalStateException();
        }
    }

    private Bank bank(int number) {
        noIndex(number < 0 || number > 4);
        return banks.get(number);
    }

    private Payment payment(int number) {
        noIndex(number < 0 || number >= payments.size());
        return payments.get(number);
    }

    long fund(int bank, int cents) {
        Bank b = bank(bank);
        noArgument(cents < 1 || cents > 1000000);
        noState(!b.open || b.account + cents > 100000000);
        return b.account += cents;
    }

    long setFloor(int bank, int floor) {
        Bank b = bank(bank);
        noArgument(floor < -1000000 || floor > 0 || floor > b.account);
        long before = b.floor;
        b.floor = floor;
        return before;
    }

    long setBound(int bank, int other, int bound) {
        Bank b = bank(bank);
        bank(other);
        noArgument(bank == other || bound < 0 || bound > 1000000 || bound < paid(bank, other));
        long before = b.bounds[other];
        b.bounds[other] = bound;
        return before;
    }

    long givePapers(int bank, int papers) {
        Bank b = bank(bank);
        noArgument(papers < 1 || papers > 1000);
        noState(!b.open || b.papers + papers > 100000);
        return b.papers += papers;
    }

    long account(int bank) {
        return bank(bank).account;
    }

    long papers(int bank) {
        return bank(bank).papers;
    }

    boolean isOpen(int bank) {
        return bank(bank).open;
    }

    long paid(int bank, int other) {
        bank(bank);
        bank(other);
        return paidBy(bank, other, List.of());
    }

    private long paidBy(int bank, int other, List<Payment> more) {
        List<Payment> all = new ArrayList<>(wentToday);
        all.addAll(more);
        long sum = 0;
        for (Payment p : all) {
            if (p.from == bank && p.to == other) {
                sum += p.amount;
            }
            if (p.from == other && p.to == bank) {
                sum -= p.amount;
            }
        }
        return sum;
    }

    long pay(int from, int to, int amount, int priority) {
        Bank sender = bank(from);
        Bank receiver = bank(to);
        noArgument(from == to || amount < 1 || amount > 100000 || priority < 0 || priority > 2);
        noState(!sender.open || !receiver.open || payments.size() == 60);
        Payment p = new Payment();
        p.number = payments.size();
        p.from = from;
        p.to = to;
        p.amount = amount;
        p.priority = priority;
        payments.add(p);
        return p.number;
    }

    private List<Payment> waiting() {
        List<Payment> list = new ArrayList<>(payments);
        list.removeIf(p -> !p.waits);
        return list;
    }

    long drop(int payment) {
        Payment p = payment(payment);
        noState(!p.waits);
        p.waits = false;
        return waiting().size();
    }

    long setSmall(int bound) {
        noArgument(bound < 0 || bound > 100000);
        long before = small;
        small = bound;
        return before;
    }

    private List<Payment> queue(int bank) {
        List<Payment> list = waiting();
        list.removeIf(p -> p.from != bank);
        list.sort(Comparator.comparingInt((Payment p) -> -p.priority).thenComparingInt(p -> p.number));
        return list;
    }

    private boolean isShort(List<Payment> together) {
        for (int i = 0; i < 5; i++) {
            long behind = banks.get(i).account;
            for (Payment p : together) {
                behind += p.to == i ? p.amount : p.from == i ? -p.amount : 0;
            }
            if (behind < banks.get(i).floor) {
                return true;
            }
        }
        return false;
    }

    private boolean isOver(List<Payment> together) {
        for (int i = 0; i < 5; i++) {
            for (int j = 0; j < 5; j++) {
                if (i != j && paidBy(i, j, together) > banks.get(i).bounds[j]) {
                    return true;
                }
            }
        }
        return false;
    }

    private boolean can(List<Payment> together) {
        return !isShort(together) && !isOver(together);
    }

    private int send(List<Payment> together) {
        for (Payment p : together) {
            banks.get(p.from).account -= p.amount;
            banks.get(p.to).account += p.amount;
            p.waits = false;
            wentToday.add(p);
        }
        return together.size();
    }

    long run() {
        int all = 0;
        while (true) {
            int gone = 0;
            for (int bank = 0; bank < 5; bank++) {
                gone += send(oneOf(queue(bank)));
            }
            if (gone == 0) {
                gone = send(setThatGoes());
            }
            if (gone == 0) {
                return all;
            }
            all += gone;
        }
    }

    private List<Payment> oneOf(List<Payment> queue) {
        for (Payment p : queue) {
            if ((p == queue.get(0) || p.amount <= small) && can(List.of(p))) {
                return List.of(p);
            }
        }
        return List.of();
    }

    private List<Payment> setThatGoes() {
        List<List<Payment>> sets = new ArrayList<>();
        for (int set = 1; set < 32; set++) {
            List<Payment> together = new ArrayList<>();
            boolean whole = true;
            for (int bank = 0; bank < 5; bank++) {
                if ((set >> bank & 1) == 1) {
                    List<Payment> queue = queue(bank);
                    whole &= !queue.isEmpty();
                    together.addAll(queue.isEmpty() ? queue : queue.subList(0, 1));
                }
            }
            if (whole && can(together)) {
                sets.add(together);
            }
        }
        sets.sort(Comparator.comparingInt((List<Payment> set) -> -set.size()));
        return sets.isEmpty() ? List.of() : sets.get(0);
    }

    long queued(int bank, int place) {
        bank(bank);
        noIndex(place < 0);
        List<Payment> queue = queue(bank);
        return place < queue.size() ? queue.get(place).number : -1;
    }

    long why(int payment) {
        Payment p = payment(payment);
        if (!p.waits) {
            return 3;
        }
        return isShort(List.of(p)) ? 1 : isOver(List.of(p)) ? 2 : 0;
    }

    boolean canAny() {
        List<Payment> list = waiting();
        noState(list.size() > 10);
        return canAny(list, 0, new ArrayList<>());
    }

    private boolean canAny(List<Payment> list, int from, List<Payment> together) {
        if (from == list.size()) {
            return !together.isEmpty() && can(together);
        }
        if (canAny(list, from + 1, together)) {
            return true;
        }
        together.add(list.get(from));
        boolean can = canAny(list, from + 1, together);
        together.remove(together.size() - 1);
        return can;
    }

    long setPrice(int newPrice, int newCut) {
        noArgument(newPrice < 1 || newPrice > 1000 || newCut < 0 || newCut > 1000);
        price = newPrice;
        cut = newCut;
        return 0;
    }

    long lend(int lender, int borrower, int amount, int rate, int papers) {
        Bank giver = bank(lender);
        Bank taker = bank(borrower);
        noArgument(lender == borrower || amount < 1 || amount > 100000);
        noArgument(rate < 0 || rate > 200 || papers < 0 || papers > 1000);
        noState(!giver.open || !taker.open || loans.size() == 40 || taker.papers < papers);
        noState(papers * price * (1000 - cut) / 1000 < amount);
        noState(giver.account - amount < giver.floor);
        Loan loan = new Loan();
        loan.lender = lender;
        loan.borrower = borrower;
        loan.amount = amount;
        loan.rate = rate;
        loan.papers = papers;
        giver.account -= amount;
        taker.account += amount;
        taker.papers -= papers;
        loans.add(loan);
        return loans.size() - 1;
    }

    long loans() {
        return loans.stream().filter(loan -> !loan.over).count();
    }

    long morning() {
        wentToday.clear();
        int closed = 0;
        for (Loan loan : loans) {
            if (loan.over) {
                continue;
            }
            loan.over = true;
            Bank giver = banks.get(loan.lender);
            Bank taker = banks.get(loan.borrower);
            long due = loan.amount + loan.amount * loan.rate / 1000;
            if (taker.open && taker.account - due >= taker.floor) {
                taker.account -= due;
                giver.account += due;
                taker.papers += loan.papers;
                continue;
            }
            if (taker.open) {
                closed++;
                taker.open = false;
                for (Payment p : waiting()) {
                    p.waits = p.from != loan.borrower && p.to != loan.borrower;
                }
            }
            long brought = loan.papers * price;
            sold += brought;
            giver.account += Math.min(due, brought);
            taker.account += brought - Math.min(due, brought);
        }
        return closed;
    }

    long sold() {
        return sold;
    }
}
