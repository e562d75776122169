/** The boundary cases of runs, their pages and their lines: "Terms" and promises 4 to 10. */
final class RunBoundaries {
    private static final String FULL_PAGE = "run 10 11 12 13 14 15 16 17";

    private RunBoundaries() {
    }

    static void all() {
        line();
        feed();
        endOfPages();
        endRefused();
        pages();
        twice();
        notTwice();
        reprint();
        copies();
    }

    private static void line() {
        Story.range("4 value", "", "line # = 1", 0, 99, "argument");
        Story.range("4 value behind other calls", Story.FILLED, "line # = 3", 0, 99, "argument");
        Story.range("4 value of an 8th line", "7 x line 5", "line # = 8", 0, 99, "argument");
        Story.test("4 the values 0 and 99 are kept as they are", "run 0 99; read 0 0 0 0 = 0; read 0 0 0 1 = 99");
        Story.test("4 a page takes an 8th line, not a 9th",
                "7 x line 5; line 6 = 8; line 7 ! state; line 8 ! state; end; read 0 0 0 7 = 6;"
                + "read 0 0 0 8 ! index");
        Story.test("4 a value out of range is told before a page that is full",
                "8 x line 5; line -1 ! argument; line 100 ! argument; line min ! argument; line max ! argument;"
                + "line 0 ! state; line 99 ! state");
        Story.test("4 the lines of a page are counted",
                "line 9 = 1; line 9 = 2; line 9 = 3; line 9 = 4; line 9 = 5; line 9 = 6; line 9 = 7; line 9 = 8");
        Story.test("4 the next page counts its lines from 1 on", "8 x line 5; feed; line 5 = 1; feed; line 5 = 1");
        Story.test("4 the next run counts its lines from 1 on", "8 x line 5; end; line 5 = 1; line 5 = 2");
        Story.test("4 a run is open from its first line on", "end ! state; line 5; end = 0; end ! state");
        Story.test("4 a run is open from its first page sign on", "end ! state; feed; end = 0; end ! state");
        Story.test("4 a line that is refused opens no run",
                "line 100 ! argument; line -1 ! argument; end ! state; pages 0 ! index");
        Story.test("4 days, formats and views leave the open page alone",
                "line 5 = 1; pass 1; format 0 0 0; view 0 1 2 3; span 0 1; hold 5 true; clear = 0; line 6 = 2; end;"
                + "pages 0 = 1");
    }

    private static void feed() {
        Story.test("5 a page of 0 lines is ended", "feed = 1; end = 0; pages 0 = 1; read 0 0 0 0 ! index");
        Story.test("5 a page of 8 lines is ended", "8 x line 5; feed = 1; end = 0; pages 0 = 1; read 0 0 0 7 = 5");
        Story.test("5 the new page is not counted", "line 5; feed = 1; line 5; feed = 2; feed = 3; line 5; feed = 4");
        Story.test("5 the next run counts its pages from 1 on", "feed = 1; feed = 2; end; feed = 1; feed = 2");
        Story.test("5 the 120th page of a run is ended, a 121st is not",
                "119 x feed; feed = 120; feed ! state; feed ! state; end = 0; pages 0 = 120");
        Story.test("5 a 121st page with a line is not ended", "120 x feed; line 5 = 1; feed ! state; line 5 = 2");
        Story.test("5 the 120th page with lines is ended",
                "119 x feed; 8 x line 5; feed = 120; end = 0; pages 0 = 120; read 0 1 0 7 = 5");
        Story.test("5 the pages of kept runs count, of one run",
                "119 x feed; end; feed = 1; feed ! state; end = 1; pages 1 = 1");
        Story.test("5 the pages of kept runs count, of several runs",
                "50 x feed; end; 40 x feed; end; 29 x feed; feed = 30; feed ! state; end = 2; pages 2 = 30;"
                + "feed ! state");
        Story.test("5 behind 120 kept pages none is ended",
                "120 x feed; end; feed ! state; line 5 = 1; feed ! state; line 5 = 2");
        Story.test("5 the pages of documents that are gone are kept",
                "120 x feed; end; pass 101; clear = 1; isThere 0 = false; feed ! state; pages 0 = 120");
        Story.test("5 behind 15 runs a page is ended", "15 x run 5; feed = 1; feed = 2");
    }

    private static void endOfPages() {
        Story.test("6 an open page of 1 line is the last one", "feed; line 5; end = 0; pages 0 = 2; read 0 1 0 0 = 5");
        Story.test("6 an open page of 0 lines is left out", "line 5; feed; end = 0; pages 0 = 1; read 0 0 1 0 ! index");
        Story.test("6 an open page of 8 lines is the last one",
                "feed; 8 x line 5; end = 0; pages 0 = 2; read 0 1 0 7 = 5");
        Story.test("6 only the page that is open is left out",
                "3 x feed; end = 0; pages 0 = 3; line 5; 3 x feed; end = 1; pages 1 = 3");
        Story.test("6 a page that is left out does not come in the next run",
                "line 5; feed; end = 0; line 6 = 1; end = 1; pages 1 = 1; read 0 1 0 0 = 6");
        Story.test("6 a run has its pages in order",
                "run 1 / 2 / 3; read 0 0 0 0 = 1; read 0 1 0 0 = 2; read 0 2 0 0 = 3");
        Story.test("6 119 pages and an open one with a line are kept", "119 x feed; line 5; end = 0; pages 0 = 120");
        Story.test("6 120 pages and an open one without a line are kept", "120 x feed; end = 0; pages 0 = 120");
        Story.test("6 the last of 120 pages in several runs is kept",
                "100 x feed; end; 19 x feed; line 5; end = 1; pages 1 = 20");
        Story.test("6 the last of 120 pages is kept as a run", "119 x feed; end; line 5; end = 1; pages 1 = 1");
        Story.test("6 runs are numbered from 0, also behind one that is gone",
                "run 5 = 0; run 5 = 1; pass 101; clear = 2; run 5 = 2");
        Story.test("6 the 15th run is kept, a 16th is not",
                "14 x run 5; run 6 = 14; pages 14 = 1; line 5 = 1; end ! state; pages 15 ! index; line 5 = 2;"
                + "documents = 15");
        Story.test("6 a run has the day on which it was ended",
                "line 5; feed; pass 7; line 6; end; found 0 -1 -1 7 0 = 0; found 0 -1 -1 7 1 = 1;"
                + "found 0 -1 -1 8 0 ! index");
    }

    private static void endRefused() {
        Story.test("6 a run without pages is not ended", "end ! state; documents = 0; pages 0 ! index");
        Story.test("6 behind a run the next one has no pages", "run 5 = 0; end ! state; documents = 1; run 6 = 1");
        Story.test("6 a 16th run of one page sign is not ended", "15 x run 5; feed = 1; end ! state; feed = 2");
        Story.test("6 a 16th run without pages is not ended", "15 x run 5; end ! state; line 5 = 1");
        Story.test("6 120 pages and an open one with a line are not ended",
                "120 x feed; line 5 = 1; end ! state; line 6 = 2; end ! state; documents = 0; pages 0 ! index");
        Story.test("6 a 121st page in a second run is not ended",
                "100 x feed; end; 20 x feed; line 5; end ! state; line 6 = 2; documents = 1; pages 1 ! index");
        Story.test("6 a 121st page as a run is not ended", "120 x feed; end; line 5 = 1; end ! state; line 6 = 2");
        Story.test("6 a run that is not ended puts no documents together",
                "15 x run 5; line 6; feed; line 7; end ! state; documents = 15; bundle 0 6 = 0;"
                + "found 0 7 -1 0 0 ! index");
    }

    private static void pages() {
        Story.range("7 run", "run 5 / 6 / 7", "pages # = 3", 0, 0, "index");
        Story.range("7 run of several", Story.FILLED, "pages #", 0, 2, "index");
        Story.range("7 run of fifteen", "15 x run 5", "pages # = 1", 0, 14, "index");
        Story.test("7 a run that is open is no run yet", "line 5; feed; line 6; pages 0 ! index; end; pages 0 = 2");
        Story.test("7 the shortest run has 1 page", "line 5; end; feed; end; pages 0 = 1; pages 1 = 1");
        Story.test("7 the longest run has 120 pages", "119 x feed; line 5; feed = 120; end = 0; pages 0 = 120");
        Story.test("7 pages of each run, the empty ones counted", Story.FILLED,
                "pages 0 = 4; pages 1 = 3; pages 2 = 2");
        Story.test("7 the pages of a run are told when its documents are gone",
                "run 5 / 6; pass 101; clear = 2; pages 0 = 2");
    }

    private static void twice() {
        Story.range("8 run", "run 5", "twice # = -1", 0, 0, "index");
        Story.range("8 run of several", "run 5; run 6; run 5", "twice #", 0, 2, "index");
        Story.range("8 run of fifteen", "15 x run 5", "twice #", 0, 14, "index");
        Story.test("8 a run that is open is no run yet", "run 5; line 5; twice 1 ! index; end; twice 1 = 0");
        Story.test("8 the first of all runs never came twice", "run 5; run 5; twice 0 = -1; twice 1 = 0");
        Story.test("8 the first one to which it is alike",
                "run 4; run 5; run 5; run 4; run 5; twice 0 = -1; twice 1 = -1; twice 2 = 1; twice 3 = 0;"
                + "twice 4 = 1");
        Story.test("8 the 15th run is alike to the 14th alone",
                "13 x run 5; run 6; run 6; twice 13 = -1; twice 14 = 13");
        Story.test("8 the 15th run is alike to the first", "run 6; 13 x run 5; run 6; twice 14 = 0");
        Story.test("8 runs of one empty page are alike", "feed; end; feed; end; twice 1 = 0");
        Story.test("8 runs of several pages are alike", "run 1 2 / / 3; run 1 2 / / 3; twice 1 = 0");
        Story.test("8 runs of full pages are alike", FULL_PAGE, FULL_PAGE, "twice 1 = 0");
        Story.test("8 a page sign behind the last line does not matter", "line 5; end; line 5; feed; end; twice 1 = 0");
        Story.test("8 pages that are printed again do not matter", "run 5; run 5; reprint 0 0 3; twice 1 = 0");
        Story.test("8 documents that are gone do not matter",
                "run 5; run 5; hold 5 true; pass 101; clear = 0; hold 5 false; clear = 2; twice 1 = 0");
        Story.test("8 a format told between does not matter", "run 5 6; format 0 1 0; run 5 6; twice 1 = 0");
        Story.test("8 the same day is the day of the end",
                "run 5; line 5; pass 1; end; run 5; twice 1 = -1; twice 2 = 1");
        Story.test("8 the last day", "9 x pass 1000; pass 998; run 5; pass 1; run 5; run 5; twice 1 = -1; twice 2 = 1");
    }

    private static void notTwice() {
        Story.test("8 a day later is not alike", "run 5; pass 1; run 5; twice 1 = -1");
        Story.test("8 a page more is not alike", "run 5 / 6; run 5 / 6 / 7; twice 1 = -1");
        Story.test("8 a page less is not alike", "run 5 / 6; run 5; twice 1 = -1");
        Story.test("8 an empty page more is not alike", "run 5; line 5; feed; feed; end; twice 1 = -1");
        Story.test("8 an empty page less is not alike", "line 5; feed; feed; end; run 5; twice 1 = -1");
        Story.test("8 an empty page elsewhere is not alike", "run 5 / / 6; run / 5 / 6; twice 1 = -1");
        Story.test("8 another first line is not alike", "run 5 6 / 7; run 4 6 / 7; twice 1 = -1");
        Story.test("8 another last line is not alike", "run 5 / 6 7; run 5 / 6 8; twice 1 = -1");
        Story.test("8 another 8th line is not alike", FULL_PAGE, "run 10 11 12 13 14 15 16 18; twice 1 = -1");
        Story.test("8 another line in the middle is not alike", "run 5 / 6 7 8 / 9; run 5 / 6 6 8 / 9; twice 1 = -1");
        Story.test("8 a line more is not alike", "run 5 / 6; run 5 / 6 7; twice 1 = -1");
        Story.test("8 a line less is not alike", "run 5 / 6 7; run 5 / 6; twice 1 = -1");
        Story.test("8 a line 0 more is not alike", "run 5 6; run 5 6 0; twice 1 = -1");
        Story.test("8 a line 0 is no empty page", "run / 5; run 0 / 5; twice 1 = -1");
        Story.test("8 an empty page is no line 0", "run 0 / 5; run / 5; twice 1 = -1");
        Story.test("8 a line on another page is not alike", "run 1 2 / 3; run 1 / 2 3; twice 1 = -1");
        Story.test("8 lines in another order are not alike", "run 1 2; run 2 1; twice 1 = -1");
        Story.test("8 pages in another order are not alike", "run 1 / 2; run 2 / 1; twice 1 = -1");
    }

    private static void reprint() {
        Story.range("9 run", Story.FILLED, "reprint # 1 1", 0, 2, "index");
        Story.range("9 page of the first run", Story.FILLED, "reprint 0 # 1", 0, 3, "index");
        Story.range("9 page of the last run", Story.FILLED, "reprint 2 # 1", 0, 1, "index");
        Story.range("9 page of a run of one", "run 5", "reprint 0 # 1 = 1", 0, 0, "index");
        Story.range("9 copies", Story.FILLED, "reprint 1 0 #", 1, 9, "argument");
        Story.range("9 copies of one page", "run 5", "reprint 0 0 # = #", 1, 9, "argument");
        Story.test("9 a run that is open is not printed again",
                "line 5; feed; reprint 0 0 1 ! index; end; reprint 0 0 1 = 1");
        Story.test("9 no such run is told before copies out of range",
                "run 5; reprint 1 0 0 ! index; reprint -1 0 10 ! index; reprint 0 0 0 ! argument");
        Story.test("9 no such page is told before copies out of range",
                "run 5; reprint 0 1 0 ! index; reprint 0 -1 10 ! index; reprint 0 0 10 ! argument");
        Story.test("9 from the first page on all are printed",
                "run 1 / 2 / 3; reprint 0 0 1 = 3; copies 0 0 = 2; copies 0 1 = 2; copies 0 2 = 2");
        Story.test("9 the pages before the first are not printed",
                "run 1 / 2 / 3; reprint 0 1 1 = 2; copies 0 0 = 1; copies 0 1 = 2; copies 0 2 = 2");
        Story.test("9 from the last page on one is printed",
                "run 1 / 2 / 3; reprint 0 2 1 = 1; copies 0 0 = 1; copies 0 1 = 1; copies 0 2 = 2");
        Story.test("9 the pages of other runs are not printed",
                "run 1; run 2 / 3; run 4; reprint 1 0 5 = 10; copies 0 0 = 1; copies 1 0 = 6; copies 1 1 = 6;"
                + "copies 2 0 = 1");
        Story.test("9 each copy is counted",
                "run 1 / 2 / / 4; reprint 0 1 9 = 27; reprint 0 3 9 = 9; copies 0 0 = 1; copies 0 1 = 10;"
                + "copies 0 2 = 10; copies 0 3 = 19");
        Story.test("9 120 pages are printed again",
                "120 x feed; end; reprint 0 0 9 = 1080; copies 0 119 = 10; reprint 0 119 1 = 1;"
                + "reprint 0 120 1 ! index; copies 0 118 = 10; copies 0 119 = 11");
        Story.test("9 the pages of documents that are gone are printed again",
                "run 5; pass 101; clear = 1; reprint 0 0 2 = 2; copies 0 0 = 3");
    }

    private static void copies() {
        Story.range("10 run", Story.FILLED, "copies # 0", 0, 2, "index");
        Story.range("10 page of the first run", Story.FILLED, "copies 0 #", 0, 3, "index");
        Story.range("10 page of the last run", Story.FILLED, "copies 2 #", 0, 1, "index");
        Story.range("10 page of a run of one", "run 5", "copies 0 # = 1", 0, 0, "index");
        Story.test("10 a run that is open has no copies", "line 5; feed; copies 0 0 ! index; end; copies 0 0 = 1");
        Story.test("10 a page that was left out has no copies",
                "line 5; feed; end; copies 0 0 = 1; copies 0 1 ! index");
        Story.test("10 the first time is counted", "run 5 / / 6; copies 0 0 = 1; copies 0 1 = 1; copies 0 2 = 1");
        Story.test("10 copies add up", "run 5; reprint 0 0 1; copies 0 0 = 2; reprint 0 0 9; copies 0 0 = 11");
        Story.test("10 copies are counted far on", "run 5; 400 x reprint 0 0 9; copies 0 0 = 3601");
        Story.test("10 a run that came twice has copies of its own",
                "run 5; run 5; reprint 0 0 2; copies 0 0 = 3; copies 1 0 = 1");
        Story.test("10 copies are told when the document is gone",
                "run 5; reprint 0 0 2; pass 101; clear = 1; copies 0 0 = 3");
    }
}
