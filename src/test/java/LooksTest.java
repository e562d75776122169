/** That "nothing has changed" is more than a word: each call that changes an object shows in the looks at it. */
final class LooksTest {
    private static final String[] CHANGES = {
        "pass 1", "pass 1000", "format 0 0 1", "format 3 0 1", "format 9999 0 0", "line 5", "feed", "end",
        "reprint 0 0 1", "reprint 2 1 9", "view 0 1 99 -1", "view 0 0 98 -1", "view 0 0 99 7", "view 1 7 9 2",
        "view 1 6 8 2", "view 1 6 9 -1", "view 2 0 98 0", "view 3 98 99 0", "view 3 99 99 1", "span 0 99", "span 1 101",
        "span 2 6", "span 3 0", "hold 0 true", "hold 6 false", "hold 99 false", "hold 42 true"};

    private LooksTest() {
    }

    static void all() {
        for (String change : CHANGES) {
            Story.seen("looks: " + change, Story.FILLED, change);
        }
        Story.seen("looks: clear", Story.FILLED + "; pass 101", "clear");
        Story.seen("looks: a line of a new object", "", "line 0");
        Story.seen("looks: a page sign of a new object", "", "feed");
        Story.seen("looks: the 10th format", "9 x format 9999 0 1", "format 9999 0 1");
        Story.seen("looks: the 120th page", "119 x feed", "feed");
        Story.seen("looks: a line behind 120 pages", "120 x feed", "line 5");
        Story.seen("looks: the 15th run", "14 x run 5; line 5", "end");
    }
}
