/** Runs every test of the project; ends with exit code 1 if one answer was wrong. */
public final class AllTests {
    private AllTests() {
    }

    public static void main(String[] args) throws Exception {
        FaceTest.run();
        ShapeTest.run();
        SourceTest.run();
        RoomTest.run();
        TendersAndBidsTest.run();
        AwardsTest.run();
        ComplaintsTest.run();
        ContractsTest.run();
        TenderEdgesTest.run();
        BidEdgesTest.run();
        AwardEdgesTest.run();
        LapseEdgesTest.run();
        ComplaintEdgesTest.run();
        ContractEdgesTest.run();
        ModelTest.run();
        System.out.println("project's own checks: " + Check.summary());
        if (Check.failures() > 0) {
            System.exit(1);
        }
    }
}
