/** Runs every test of the project; ends with 1 if one failed. */
final class AllTests {
    public static void main(String[] args) {
        Tests tests = new Tests();
        new FaceTests(tests).all();
        new LanguageTests(tests).all();
        new RoomTests(tests).all();
        new ReadmeTests(tests).all();
        new ReadingTests(tests).all();
        new PocketTests(tests).all();
        new TotalTests(tests).all();
        new HouseTests(tests).all();
        new RefusalTests(tests).all();
        new LineBounds(tests).all();
        new PocketBounds(tests).all();
        new TotalBounds(tests).all();
        new HouseBounds(tests).all();
        new RandomRuns(tests).all();
        tests.printTotals();
        if (tests.failed() > 0) {
            System.exit(1);
        }
    }
}
