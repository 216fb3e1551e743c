/**
 * Hubs that are made alike: a call that is refused was made of one and not of the other, and from
 * then on both must answer alike. No hub is used for more than 512 calls.
 */
final class Twins {
    interface Recipe {
        Queuefloat make();
    }

    interface Use {
        long of(Queuefloat hub);
    }

    static final int[] NO_BANKS = {-1, 5, Integer.MIN_VALUE, Integer.MAX_VALUE};

    private static final int BANKS = 5;
    private static final int PAYMENTS = 60;

    private Twins() {
    }

    static void index(String what, Recipe recipe, Use call) {
        refused(what, "IndexOutOfBoundsException", recipe, call);
    }

    static void argument(String what, Recipe recipe, Use call) {
        refused(what, "IllegalArgumentException", recipe, call);
    }

    static void state(String what, Recipe recipe, Use call) {
        refused(what, "IllegalStateException", recipe, call);
    }

    private static void refused(String what, String exception, Recipe recipe, Use call) {
        Queuefloat hub = recipe.make();
        Check.due(what, exception, Check.outcome(() -> call.of(hub)));
        Check.due(what + " changes nothing", storyOf(recipe.make()), storyOf(hub));
    }

    /** A call that is not refused, but only asks. */
    static void asks(String what, long want, Recipe recipe, Use call) {
        Queuefloat hub = recipe.make();
        Check.due(what, want, call.of(hub));
        Check.due(what + " changes nothing", storyOf(recipe.make()), storyOf(hub));
    }

    /** A call that is not refused, on a hub of its own. */
    static void answers(String what, long want, Recipe recipe, Use call) {
        Queuefloat hub = recipe.make();
        Check.due(what, Long.toString(want), Check.outcome(() -> call.of(hub)));
    }

    static long priced(Queuefloat hub, int price, int cut) {
        hub.setPrice(price, cut);
        return 0;
    }

    static long truth(boolean answer) {
        return answer ? 1 : 0;
    }

    /**
     * A hub in the midst of things: bank 3 is closed with 960 cents and 10 papers, one loan is not
     * repaid; payment 0 went, 1 is over its bound, 2 is free, 3 is short, 4 was dropped.
     */
    static Queuefloat busy() {
        Queuefloat hub = new Queuefloat();
        hub.fund(0, 5000);
        hub.fund(1, 700);
        hub.fund(2, 90);
        hub.setFloor(2, -50);
        hub.givePapers(1, 40);
        hub.givePapers(2, 30);
        hub.givePapers(3, 20);
        hub.lend(0, 3, 400, 100, 10);
        hub.morning();
        hub.setPrice(50, 100);
        hub.setBound(0, 1, 600);
        hub.setSmall(30);
        hub.lend(0, 1, 900, 20, 20);
        hub.pay(0, 1, 500, 1);
        hub.run();
        hub.pay(0, 1, 200, 0);
        hub.pay(0, 2, 10, 0);
        hub.pay(2, 4, 1000, 2);
        hub.pay(1, 4, 5, 0);
        hub.drop(4);
        return hub;
    }

    /** All that can be asked, then what further calls answer that hang on what cannot be asked. */
    private static String storyOf(Queuefloat hub) {
        StringBuilder story = new StringBuilder();
        tellBanks(story, hub);
        tellPaid(story, hub);
        tellLimits(story, hub);
        tellPayments(story, hub);
        tell(story, "canAny", () -> truth(hub.canAny()));
        tell(story, "pay", () -> hub.pay(0, 4, 1, 0));
        tell(story, "pay", () -> hub.pay(2, 1, 30, 1));
        tell(story, "run", hub::run);
        tellLoans(story, hub);
        tell(story, "morning", hub::morning);
        tellBanks(story, hub);
        return story.toString();
    }

    private static void tell(StringBuilder story, String what, Check.Call call) {
        story.append(what).append(' ').append(Check.outcome(call)).append("; ");
    }

    private static void tellBanks(StringBuilder story, Queuefloat hub) {
        for (int i = 0; i < BANKS; i++) {
            int bank = i;
            tell(story, "account " + bank, () -> hub.account(bank));
            tell(story, "papers", () -> hub.papers(bank));
            tell(story, "isOpen", () -> truth(hub.isOpen(bank)));
        }
        tell(story, "loans", hub::loans);
        tell(story, "sold", hub::sold);
    }

    private static void tellPaid(StringBuilder story, Queuefloat hub) {
        for (int pair = 0; pair < BANKS * BANKS; pair++) {
            int bank = pair / BANKS;
            int other = pair % BANKS;
            tell(story, "paid " + bank + " " + other, () -> hub.paid(bank, other));
        }
    }

    private static void tellLimits(StringBuilder story, Queuefloat hub) {
        for (int bank = 0; bank < BANKS; bank++) {
            int floor = hub.setFloor(bank, -1000000);
            hub.setFloor(bank, floor);
            story.append("floor ").append(floor).append("; ");
            for (int other = 0; other < BANKS; other++) {
                if (other != bank) {
                    int bound = hub.setBound(bank, other, 1000000);
                    hub.setBound(bank, other, bound);
                    story.append("bound ").append(bound).append("; ");
                }
            }
        }
        int small = hub.setSmall(0);
        hub.setSmall(small);
        story.append("small ").append(small).append("; ");
    }

    private static void tellPayments(StringBuilder story, Queuefloat hub) {
        for (int bank = 0; bank < BANKS; bank++) {
            int payment = hub.queued(bank, 0);
            for (int place = 1; payment != Queuefloat.NONE && place <= PAYMENTS; place++) {
                story.append("queued ").append(payment).append("; ");
                payment = hub.queued(bank, place);
            }
        }
        for (int i = 0; i < PAYMENTS; i++) {
            int payment = i;
            tell(story, "why " + payment, () -> hub.why(payment));
        }
    }

    /** Each of these is lent or not by the price and the cut, and the next one has the next number. */
    private static void tellLoans(StringBuilder story, Queuefloat hub) {
        hub.setFloor(0, Math.min(hub.account(0), -900000));
        for (int amount : new int[] {1001, 801, 800, 500, 451, 450, 101, 10, 1}) {
            tell(story, "lend " + amount, () -> hub.lend(0, 2, amount, 0, 10));
        }
    }
}
