/** Runs all tests of the project; ends with exit code 1 if one fails. */
public final class AllTests {
    private AllTests() {
    }

    public static void main(String[] args) throws Exception {
        FaceTest.all();
        BanksTest.all();
        PaymentsTest.all();
        RunTest.all();
        LoansTest.all();
        BankEdges.all();
        PaymentEdges.all();
        RunEdges.all();
        LoanEdges.all();
        ReadmeTest.all();
        ModelTest.all();
        if (!Check.close()) {
            System.exit(1);
        }
    }
}
