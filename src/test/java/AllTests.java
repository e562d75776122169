/** Runs every test of the project. */
public final class AllTests {
    private AllTests() {
    }

    public static void main(String[] args) {
        DaysAndFormatsTest.all();
        RunsTest.all();
        DocumentsTest.all();
        ReadersSpansHoldsTest.all();
        DayBoundaries.all();
        RunBoundaries.all();
        DocumentBoundaries.all();
        ReaderBoundaries.all();
        LooksTest.all();
        ModelTest.all();
        FaceTest.all();
        ReadmeTest.all();
        Check.close();
    }
}
