import java.util.Map;

/** The boundary cases of documents: "Terms" and promises 11 to 17. */
final class DocumentBoundaries {
    /** The documents 0 to 4 of the kinds 0, 1, 2, 3 and 0, on the days 0, 10 and 20; the last one has no account. */
    private static final String FIVE = "run 0 0 / 5 1; pass 10; run 5 2 / 99 3; pass 10; feed; end";

    private static final Map<String, Integer> ASKED_NUMBERS = Map.of("isThere", 12, "account", 13, "kind", 14,
            "length", 15);

    private DocumentBoundaries() {
    }

    static void all() {
        beginning();
        lacking();
        documents();
        numbers();
        isThere();
        account();
        kind();
        length();
        foundRanges();
        foundLimits();
        readRanges();
        readOrder();
        blankLines();
    }

    private static void beginning() {
        Story.test("11 the first page of a run begins a document of its account",
                "run 5; documents = 1; account 0 = 5");
        Story.test("11 the first page of a run begins one, also of the account before",
                "run 5; run 5; documents = 2; length 0 = 1; account 1 = 5; length 1 = 1");
        Story.test("11 the first page of a run without account begins one in any case",
                "run 5; feed; end; documents = 2; length 0 = 1; account 1 = -1; length 1 = 1");
        Story.test("11 a page of the same account begins none", "run 5 / 5; documents = 1; length 0 = 2");
        Story.test("11 a page of another account begins one",
                "run 5 / 6; documents = 2; account 1 = 6; length 0 = 1; length 1 = 1");
        Story.test("11 a page of the account one higher, and one lower, begins one",
                "run 98 / 99 / 98; documents = 3; account 0 = 98; account 1 = 99; account 2 = 98");
        Story.test("11 the account 0 is an account", "run 5 / 0 / 0; documents = 2; account 1 = 0; length 1 = 2");
        Story.test("11 a page with an account behind a document without one begins one",
                "feed; line 0; end; documents = 2; account 0 = -1; account 1 = 0; length 0 = 1; length 1 = 1");
        Story.test("11 a page without account belongs to the document of the page before",
                "run 5 / / 6; documents = 2; length 0 = 2; length 1 = 1");
        Story.test("11 behind a page without account the same account begins none",
                "run 5 / / 5; documents = 1; length 0 = 3");
        Story.test("11 pages without account at first are one document",
                "feed; feed; line 5; end; documents = 2; length 0 = 2; account 0 = -1; length 1 = 1");
        Story.test("11 an account that comes back begins a document", "run 5 / 6 / 5; documents = 3; account 2 = 5");
        Story.test("11 documents are numbered over all runs, in order",
                "run 5 / 6; run 7; run 8 / 9; account 0 = 5; account 1 = 6; account 2 = 7; account 3 = 8;"
                + "account 4 = 9");
        Story.test("11 a line that is not that of the account begins none",
                "format 0 1 0; run 1 5 / 2 5 / 3; documents = 1; account 0 = 5; length 0 = 3");
    }

    private static void lacking() {
        Story.test("13 a first page of 0 lines has no account at line 0", "feed; end; account 0 = -1");
        Story.test("13 a first page of 1 line has an account at line 0", "run 0; account 0 = 0");
        Story.test("13 a first page of 3 lines has no account at line 3", "format 0 3 0; run 5 6 7; account 0 = -1");
        Story.test("13 a first page of 4 lines has an account at line 3", "format 0 3 0; run 5 6 7 8; account 0 = 8");
        Story.test("13 a first page of 7 lines has no account at line 7",
                "format 0 7 0; run 1 2 3 4 5 6 7; account 0 = -1");
        Story.test("13 a first page of 8 lines has an account at line 7",
                "format 0 7 0; run 1 2 3 4 5 6 7 8; account 0 = 8");
        Story.test("11 a later page of 3 lines has no account at line 3",
                "format 0 3 0; run 5 6 7 8 / 5 6 7; documents = 1; length 0 = 2");
        Story.test("11 a later page of 4 lines has an account at line 3",
                "format 0 3 0; run 5 6 7 8 / 5 6 7 9; documents = 2; account 1 = 9");
        Story.test("13 a document keeps lacking an account", "feed; end; format 0 1 1; run 5 6; account 0 = -1");
    }

    private static void documents() {
        Story.test("11 there are none at first", "documents = 0; isThere 0 ! index");
        Story.test("11 those of an open run are not there yet",
                "line 5; feed; line 6; documents = 0; isThere 0 ! index; end; documents = 2");
        Story.test("11 those that are gone are counted",
                "run 5 / 6; pass 101; clear = 2; documents = 2; run 7; documents = 3; account 2 = 7");
        Story.test("11 120 pages are one document", "120 x feed; end; documents = 1; length 0 = 120");
        Story.test("11 120 pages are 120 documents", Story.DOCUMENTS_120,
                "documents = 120; account 119 = 6; account 120 ! index; length 0 = 1; length 119 = 1");
        Story.test("11 a run that is refused has none", "15 x run 5; line 6; end ! state; documents = 15");
    }

    private static void numbers() {
        for (String asked : new String[] {"isThere", "account", "kind", "length"}) {
            String name = ASKED_NUMBERS.get(asked) + " " + asked + " of a document";
            Story.test(name + " when there never was one", "line 5; # 0 ! index; # -1 ! index; # 1 ! index"
                    .replace("#", asked));
            Story.range(name, "run 5", asked + " #", 0, 0, "index");
            Story.range(name + " of seven", Story.FILLED, asked + " #", 0, 6, "index");
            Story.range(name + " of some that are gone", "run 5 / 6 / 7; pass 101; clear = 3", asked + " #", 0, 2,
                    "index");
            Story.range(name + " of 120", Story.DOCUMENTS_120, asked + " #", 0, 119, "index");
        }
    }

    private static void isThere() {
        Story.test("12 a document is there until it is cleared",
                "run 5; isThere 0 = true; pass 101; isThere 0 = true; clear = 1; isThere 0 = false");
        Story.test("12 a document that is gone does not come back",
                "run 5; pass 101; clear = 1; span 0 9999; hold 5 true; isThere 0 = false; clear = 0;"
                + "isThere 0 = false");
        Story.test("12 a document is there, whoever sees it",
                "run 5 / 6; view 0 6 6 -1; view 1 6 6 -1; view 2 6 6 -1; view 3 6 6 -1; isThere 0 = true");
        Story.test("12 one goes, the ones beside it stay",
                "run 5 0 / 6 1 / 7 0; span 1 0; pass 1; clear = 1; isThere 0 = true; isThere 1 = false;"
                + "isThere 2 = true");
    }

    private static void account() {
        Story.test("13 the accounts 0 and 99", "run 0 / 99; account 0 = 0; account 1 = 99");
        Story.test("13 -1 if there is none", "feed; end; account 0 = -1");
        Story.test("13 also of a document that is gone",
                "run 7 / 8; pass 101; clear = 2; account 0 = 7; account 1 = 8");
        Story.test("13 also of one without account that is gone", "feed; end; pass 101; clear = 1; account 0 = -1");
    }

    private static void kind() {
        Story.test("14 the values 0 to 3", "run 1 0 / 2 1 / 3 2 / 4 3; kind 0 = 0; kind 1 = 1; kind 2 = 2; kind 3 = 3");
        Story.test("14 the value 4 is the kind 0 again", "run 1 4; kind 0 = 0");
        Story.test("14 the values 5 to 8", "run 1 5 / 2 6 / 3 7 / 4 8; kind 0 = 1; kind 1 = 2; kind 2 = 3; kind 3 = 0");
        Story.test("14 the values 96 to 99",
                "run 1 96 / 2 97 / 3 98 / 4 99; kind 0 = 0; kind 1 = 1; kind 2 = 2; kind 3 = 3");
        Story.test("14 a first page of 1 line has the kind 0 at line 1", "run 7; kind 0 = 0");
        Story.test("14 a first page of 2 lines has a kind at line 1", "run 7 3; kind 0 = 3");
        Story.test("14 a first page of 0 lines has the kind 0 at line 0", "format 0 1 0; feed; end; kind 0 = 0");
        Story.test("14 a first page of 1 line has a kind at line 0", "format 0 1 0; run 7; kind 0 = 3; account 0 = -1");
        Story.test("14 a first page of 7 lines has the kind 0 at line 7",
                "format 0 0 7; run 7 7 7 7 7 7 7; kind 0 = 0");
        Story.test("14 a first page of 8 lines has a kind at line 7", "format 0 0 7; run 7 7 7 7 7 7 7 3; kind 0 = 3");
        Story.test("14 a later page does not tell the kind", "run 7 / 7 3; kind 0 = 0; run 7 1 / 7 3; kind 1 = 1");
        Story.test("14 a later page does not tell the kind of one without account",
                "format 0 3 0; run 1 / 2 / 3; kind 0 = 1; length 0 = 3");
        Story.test("14 each document has the kind of its own first page",
                "run 7 1 / 7 2 / 8 3 / 8 2; kind 0 = 1; kind 1 = 3");
        Story.test("14 also of a document that is gone", "run 7 3 / 8 2; pass 101; clear = 2; kind 0 = 3; kind 1 = 2");
        Story.test("14 a format told later does not change it",
                "run 7 3; format 0 1 0; kind 0 = 3; run 7 2; kind 0 = 3; kind 1 = 3; account 1 = 2");
    }

    private static void length() {
        Story.test("15 a document has at least one page", "run 5 / 6 / 7; length 0 = 1; length 1 = 1; length 2 = 1");
        Story.test("15 a document of one account has up to 120 pages", "run 5" + " / 5".repeat(119) + "; documents = 1;"
                + "length 0 = 120");
        Story.test("15 pages without account count", "run 5 / / / 6; length 0 = 3; length 1 = 1");
        Story.test("15 an open page that is left out does not count", "line 5; feed; feed; end; length 0 = 2");
        Story.test("15 pages of other runs do not count", "run 5 / 5; run 5; length 0 = 2; length 1 = 1");
        Story.test("15 copies do not count", "run 5 / 5; reprint 0 0 9; length 0 = 2");
        Story.test("15 also of a document that is gone",
                "run 5 / 5 / 6; pass 101; clear = 2; length 0 = 2; length 1 = 1");
    }

    private static void foundRanges() {
        Story.range("16 reader", FIVE, "found # -1 -1 0 0 = 0", 0, 3, "argument");
        Story.range("16 account", FIVE, "found 0 # -1 0 0", -1, 99, "argument");
        Story.range("16 kind", FIVE, "found 0 -1 # 0 0", -1, 3, "argument");
        Story.range("16 day", FIVE + "; 9 x pass 1000; pass 979 = 9999; run 7", "found 0 -1 -1 # 0", 0, 9999,
                "argument");
        Story.range("16 index", FIVE, "found 0 -1 -1 0 # = #", 0, 4, "index");
        Story.range("16 index of the only one", FIVE, "found 0 99 3 10 # = 3", 0, 0, "index");
        Story.range("16 index of reader 3", FIVE, "found 3 -1 -1 0 # = #", 0, 3, "index");
        Story.range("16 index in all of an object", Story.FILLED, "found 0 -1 -1 0 # = #", 0, 6, "index");
        Story.test("16 there is no document without runs",
                "found 0 -1 -1 0 0 ! index; found 0 5 0 0 0 ! index; line 5; found 0 5 0 0 0 ! index;"
                + "found 0 -1 -1 0 -1 ! index; found 0 -1 -1 0 max ! index");
        Story.test("16 arguments out of range are told before the index", FIVE,
                "found 4 -1 -1 0 5 ! argument; found -1 -1 -1 0 -1 ! argument; found 0 -2 -1 0 5 ! argument;"
                + "found 0 100 -1 0 -1 ! argument; found 0 -1 -2 0 5 ! argument; found 0 -1 4 0 -1 ! argument;"
                + "found 0 -1 -1 -1 5 ! argument; found 0 -1 -1 10000 -1 ! argument; found 0 -1 -1 0 5 ! index;"
                + "found 0 -1 -1 0 -1 ! index");
    }

    private static void foundLimits() {
        Story.test("16 any account includes documents without account, for reader 0",
                "feed; line 5; end; found 0 -1 -1 0 0 = 0; found 0 -1 -1 0 1 = 1");
        Story.test("16 any account includes none without account, for the readers 1 to 3",
                "feed; line 5; end; found 1 -1 -1 0 0 = 1; found 2 -1 -1 0 0 = 1; found 3 -1 -1 0 0 = 1;"
                + "found 1 -1 -1 0 1 ! index; found 2 -1 -1 0 1 ! index; found 3 -1 -1 0 1 ! index");
        Story.test("16 an account does not include documents without account",
                "feed; end; found 0 0 -1 0 0 ! index; found 0 99 -1 0 0 ! index");
        Story.test("16 an account includes neither the one below nor the one above",
                "run 4 / 5 / 6; found 0 5 -1 0 0 = 1; found 0 5 -1 0 1 ! index");
        Story.test("16 the accounts 0 and 99", FIVE,
                "found 0 0 -1 0 0 = 0; found 0 0 -1 0 1 ! index; found 0 99 -1 0 0 = 3; found 0 99 -1 0 1 ! index");
        Story.test("16 each kind", FIVE,
                "found 1 -1 0 0 0 = 0; found 1 -1 1 0 0 = 1; found 1 -1 2 0 0 = 2; found 1 -1 3 0 0 = 3;"
                + "found 1 -1 3 0 1 ! index");
        Story.test("16 the kind 0 includes documents without a line of the kind",
                "run 5; found 0 -1 0 0 0 = 0; found 0 -1 1 0 0 ! index");
        Story.test("16 the day before that of the run", FIVE, "found 0 5 -1 9 0 = 2");
        Story.test("16 the day of the run", FIVE, "found 0 5 -1 10 0 = 2; found 0 0 -1 0 0 = 0");
        Story.test("16 the day behind that of the run", FIVE, "found 0 5 -1 11 0 ! index; found 0 0 -1 1 0 ! index");
        Story.test("16 the day 9999",
                "run 5; 9 x pass 1000; pass 998; run 6; found 0 -1 -1 9999 0 ! index; pass 1 = 9999; run 7;"
                + "found 0 -1 -1 9999 0 = 2; found 0 -1 -1 9998 0 = 1");
        Story.test("16 the day on which the run was ended",
                "line 5; pass 3; end; found 0 5 -1 3 0 = 0; found 0 5 -1 4 0 ! index");
        Story.test("16 account, kind and day together", FIVE,
                "found 0 5 2 10 0 = 2; found 0 5 1 10 0 ! index; found 0 5 2 11 0 ! index;"
                + "found 0 99 2 10 0 ! index");
        Story.test("16 the lowest number comes first",
                "run 5 / 6 / 5; run 5; found 0 5 -1 0 0 = 0; found 0 5 -1 0 1 = 2; found 0 5 -1 0 2 = 3;"
                + "found 0 5 -1 0 3 ! index");
        Story.test("16 documents that are gone are not found", FIVE,
                "span 2 0; pass 1; clear = 1; found 0 5 -1 0 0 = 1; found 0 5 -1 0 1 ! index;"
                + "found 0 -1 -1 0 2 = 3; found 0 -1 2 0 0 ! index");
        Story.test("16 accounts outside a view are not found",
                "run 4 / 5 / 6 / 7; view 2 5 6 -1; found 2 -1 -1 0 0 = 1; found 2 -1 -1 0 1 = 2;"
                + "found 2 -1 -1 0 2 ! index; found 2 4 -1 0 0 ! index; found 2 7 -1 0 0 ! index");
        Story.test("16 reader 0 finds documents without account in any view",
                "feed; line 5; end; view 0 99 99 -1; found 0 -1 -1 0 0 = 0; found 0 -1 -1 0 1 ! index");
        Story.test("16 a line that is blanked out does not matter",
                "run 5 3; view 1 0 99 0; found 1 5 3 0 0 = 0; view 1 0 99 1; found 1 5 3 0 0 = 0");
        Story.test("16 documents of an open run are not found",
                "line 5; feed; line 6; found 0 -1 -1 0 0 ! index; end; found 0 -1 -1 0 0 = 0");
    }

    private static void readRanges() {
        Story.range("17 reader", "run 5 6 7 / 5 8", "read # 0 1 1 = 8", 0, 3, "argument");
        Story.range("17 reader, in all of an object", Story.FILLED, "read # 6 0 0", 0, 3, "argument");
        Story.range("17 document", "run 5", "read 0 # 0 0 = 5", 0, 0, "index");
        Story.range("17 document, in all of an object", Story.FILLED, "read 0 # 0 0", 0, 6, "index");
        Story.range("17 page", "run 5 1 / 5 2 / 5 3", "read 0 0 # 0 = 5", 0, 2, "index");
        Story.range("17 page, with a document behind it", "run 5 1 / 5 2 / 6 3", "read 0 0 # 0 = 5", 0, 1, "index");
        Story.range("17 page, with a document before it", "run 4 1 / 5 2 / 5 3", "read 0 1 # 0 = 5", 0, 1, "index");
        Story.range("17 page, of 120", "run 5" + " / 5".repeat(119), "read 0 0 # 0 = 5", 0, 119, "index");
        Story.range("17 line", "run 5 6 7", "read 0 0 0 #", 0, 2, "index");
        Story.range("17 line of a page of 1", "run 5", "read 0 0 0 # = 5", 0, 0, "index");
        Story.range("17 line of a page of 8", "run 5 6 7 8 9 10 11 12", "read 0 0 0 #", 0, 7, "index");
        Story.range("17 line, with longer pages beside it", "run 5 6 7 8 / 5 6 / 5 6 7 8", "read 0 0 1 #", 0, 1,
                "index");
        Story.test("17 a page of 0 lines has no line",
                "feed; end; read 0 0 0 0 ! index; read 0 0 0 -1 ! index; read 0 0 0 max ! index");
        Story.test("17 a keeper without documents has none to read",
                "read 0 0 0 0 ! index; line 5; read 0 0 0 0 ! index; read 3 -1 0 0 ! index; end; read 0 0 0 0 = 5");
        Story.test("17 each line as it came",
                "run 0 99 / 7 8 9 / 7 10; read 0 0 0 0 = 0; read 0 0 0 1 = 99; read 0 1 0 0 = 7; read 0 1 0 1 = 8;"
                + "read 0 1 0 2 = 9; read 0 1 1 0 = 7; read 0 1 1 1 = 10");
    }

    private static void readOrder() {
        Story.test("17 a reader out of range is told before a document that never was",
                "run 5; read 4 1 0 0 ! argument; read -1 -1 0 0 ! argument");
        Story.test("17 a reader out of range is told before no such page or line",
                "run 5; read 4 0 1 0 ! argument; read 4 0 0 1 ! argument; read -1 0 -1 -1 ! argument");
        Story.test("17 no such page is told before a document that is not seen",
                "run 5; view 1 6 6 -1; read 1 0 1 0 ! index; read 1 0 -1 0 ! index; read 1 0 0 0 ! element");
        Story.test("17 no such line is told before a document that is not seen",
                "run 5; view 1 6 6 -1; read 1 0 0 1 ! index; read 1 0 0 -1 ! index; read 1 0 0 0 ! element");
        Story.test("17 no such page or line is told before a document that is gone",
                "run 5; pass 101; clear = 1; read 0 0 1 0 ! index; read 0 0 0 1 ! index; read 0 1 0 0 ! index;"
                + "read 0 0 0 0 ! element");
        Story.test("17 no such line is told before one without account",
                "feed; end; read 0 0 0 0 ! index; read 1 0 0 0 ! index");
        Story.test("17 the account below the first is not seen, the first is",
                "run 4 / 5; view 1 5 99 -1; read 1 0 0 0 ! element; read 1 1 0 0 = 5");
        Story.test("17 the account above the last is not seen, the last is",
                "run 5 / 6; view 1 0 5 -1; read 1 0 0 0 = 5; read 1 1 0 0 ! element");
        Story.test("17 a document that is gone is seen by none",
                "run 5; pass 101; read 0 0 0 0 = 5; clear = 1; read 0 0 0 0 ! element; read 1 0 0 0 ! element;"
                + "read 2 0 0 0 ! element; read 3 0 0 0 ! element");
        Story.test("17 a document without account is seen by reader 0 alone",
                "format 0 1 0; run 7; read 0 0 0 0 = 7; read 1 0 0 0 ! element; read 2 0 0 0 ! element;"
                + "read 3 0 0 0 ! element");
        Story.test("17 reader 0 sees it in any view, while it is there",
                "format 0 1 0; run 7; view 0 50 50 -1; read 0 0 0 0 = 7; pass 101; clear = 1;"
                + "read 0 0 0 0 ! element");
        Story.test("17 the readers 1 to 3 see it in no view",
                "format 0 1 0; run 7; view 1 0 99 -1; view 2 0 0 -1; view 3 7 7 -1; read 1 0 0 0 ! element;"
                + "read 2 0 0 0 ! element; read 3 0 0 0 ! element");
    }

    private static void blankLines() {
        Story.test("17 line 0 is blanked out",
                "run 5 6 7; view 1 0 99 0; read 1 0 0 0 = -1; read 1 0 0 1 = 6; read 1 0 0 2 = 7");
        Story.test("17 line 7 is blanked out",
                "run 5 6 7 8 9 10 11 12; view 1 0 99 7; read 1 0 0 7 = -1; read 1 0 0 6 = 11; read 1 0 0 0 = 5");
        Story.test("17 the lines beside the one that is blanked out are read",
                "run 5 6 7 8; view 1 0 99 2; read 1 0 0 1 = 6; read 1 0 0 2 = -1; read 1 0 0 3 = 8");
        Story.test("17 a line that is lacking is not blanked out",
                "run 5 6; view 1 0 99 2; read 1 0 0 2 ! index; read 1 0 0 1 = 6");
        Story.test("17 -1 blanks out no line",
                "run 5 6; view 1 0 99 1; read 1 0 0 1 = -1; view 1 0 99 -1; read 1 0 0 1 = 6; read 1 0 0 -1 ! index");
        Story.test("17 a line is blanked out on all pages",
                "run 5 6 / 5 7 / 8 9; view 1 0 99 1; read 1 0 0 1 = -1; read 1 0 1 1 = -1; read 1 1 0 1 = -1");
        Story.test("17 a line is blanked out for one reader alone",
                "run 5 6; view 2 0 99 1; read 0 0 0 1 = 6; read 1 0 0 1 = 6; read 2 0 0 1 = -1; read 3 0 0 1 = 6");
        Story.test("17 a line of a document that is not seen is not blanked out",
                "run 5 6; view 2 6 99 1; read 2 0 0 1 ! element");
        Story.test("17 a line is blanked out in a document without account",
                "format 0 7 0; run 5 6; view 0 0 99 1; read 0 0 0 1 = -1; read 0 0 0 0 = 5");
    }
}
