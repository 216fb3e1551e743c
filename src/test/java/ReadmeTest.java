/** The example of README.md: its calls answer what is told there. */
final class ReadmeTest {
    private ReadmeTest() {
    }

    static void all() {
        Queuefloat hub = new Queuefloat();
        Check.due("README fund", 500, hub.fund(0, 500));
        Check.due("README pay", 0, hub.pay(0, 2, 80, 0));
        Check.due("README pay", 1, hub.pay(0, 1, 600, 1));
        Check.due("README pay", 2, hub.pay(1, 0, 300, 0));
        Check.due("README queued", 1, hub.queued(0, 0));
        Check.due("README why", Queuefloat.SHORT, hub.why(1));
        Check.due("README run", 3, hub.run());
        Check.due("README why", Queuefloat.GONE, hub.why(0));
        Check.due("README paid", 300, hub.paid(0, 1));
        Check.due("README givePapers", 10, hub.givePapers(3, 10));
        Check.due("README lend", 0, hub.lend(1, 3, 200, 50, 4));
        Check.due("README morning", 1, hub.morning());
        Check.due("README sold", 400, hub.sold());
        Check.due("README account", 310, hub.account(1));
        Check.due("README account", 390, hub.account(3));
    }
}
