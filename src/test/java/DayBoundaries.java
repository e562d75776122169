/** The boundary cases of days, formats and a new object: "Terms" and promises 1 to 3. */
final class DayBoundaries {
    private DayBoundaries() {
    }

    static void all() {
        newObject();
        pass();
        format();
        formatThatCounts();
        usualFormat();
    }

    private static void newObject() {
        Story.test("1 the 512th call is promised", "run 5; 509 x reprint 0 0 9; copies 0 0 = 4582");
        Story.test("1 a new keeper has no runs",
                "pages 0 ! index; twice 0 ! index; copies 0 0 ! index; reprint 0 0 1 ! index; run 5 = 0");
        Story.test("1 a new keeper has no documents",
                "documents = 0; isThere 0 ! index; account 0 ! index; kind 0 ! index; length 0 ! index;"
                + "found 0 -1 -1 0 0 ! index; read 0 0 0 0 ! index; bundle 0 0 = 0; clear = 0");
        Story.test("1 a new keeper has no open run", "end ! state; line 5 = 1; end = 0; pages 0 = 1");
        Story.test("1 a new keeper is on day 0", "run 5; found 0 -1 -1 1 0 ! index; found 0 -1 -1 0 0 = 0; pass 1 = 1");
        Story.test("1 a new keeper has no format told", "format 0 0 1 = 1");
        Story.test("1 each kind has a span of 100 days at first",
                "span 0 0 = 100; span 1 0 = 100; span 2 0 = 100; span 3 0 = 100");
        Story.test("1 no account is held at first", "hold 0 false = false; hold 50 true = false; hold 99 true = false");
        for (int reader = 0; reader <= 3; reader++) {
            Story.test("1 reader " + reader + " sees the accounts 0 to 99 at first", "run 0 / 99",
                    "found # -1 -1 0 0 = 0; found # -1 -1 0 1 = 1; bundle # 0 = 1; bundle # 99 = 1"
                            .replace("#", String.valueOf(reader)));
            Story.test("1 reader " + reader + " has no line blanked out at first", "run 10 11 12 13 14 15 16 17",
                    "read # 0 0 0 = 10; read # 0 0 1 = 11; read # 0 0 2 = 12; read # 0 0 3 = 13; read # 0 0 4 = 14;"
                            .replace("#", String.valueOf(reader)),
                    "read # 0 0 5 = 15; read # 0 0 6 = 16; read # 0 0 7 = 17".replace("#", String.valueOf(reader)));
        }
    }

    private static void pass() {
        Story.range("2 days", "", "pass # = #", 1, 1000, "argument");
        Story.range("2 days behind other calls", Story.FILLED, "pass #", 1, 1000, "argument");
        Story.test("2 the day goes on by the days that pass", "pass 1 = 1; pass 1000 = 1001; pass 7 = 1008");
        Story.test("2 9999 is not too late, a day more is",
                "9 x pass 1000; pass 1000 ! state; pass 999 = 9999; pass 1 ! state; pass 1000 ! state");
        Story.test("2 9999 is reached by 1000 days, not by one more",
                "8 x pass 1000; pass 999 = 8999; pass 1000 = 9999; pass 1 ! state");
        Story.test("2 from 9000 on 1000 days are too many", "9 x pass 1000; pass 1000 ! state; pass 1 = 9001");
        Story.test("2 from 9998 on one day is left", "9 x pass 1000; pass 998 = 9998; pass 2 ! state; pass 1 = 9999");
        Story.test("2 days out of range are told before a day that is too late",
                "9 x pass 1000; pass 999 = 9999; pass 0 ! argument; pass 1001 ! argument; pass max ! argument;"
                + "pass min ! argument; pass 1 ! state");
    }

    private static void format() {
        Story.range("3 day", "", "format # 2 3 = 1", 0, 9999, "argument");
        Story.range("3 line of the account", "", "format 0 # 3 = 1", 0, 7, "argument");
        Story.range("3 line of the kind", "", "format 0 2 # = 1", 0, 7, "argument");
        Story.range("3 day behind other calls", Story.FILLED, "format # 2 3 = 2", 0, 9999, "argument");
        Story.range("3 line of the account behind other calls", Story.FILLED, "format 0 # 3 = 2", 0, 7, "argument");
        Story.range("3 line of the kind behind other calls", Story.FILLED, "format 0 2 # = 2", 0, 7, "argument");
        Story.test("3 a day out of range is no later day",
                "format 10000 7 7 ! argument; 9 x pass 1000; pass 999; run 5 6; account 0 = 5; kind 0 = 2");
        Story.test("3 formats are counted", "format 4 0 0 = 1; format 4 0 0 = 2; format 2 0 0 = 3");
        Story.test("3 a 10th format is told, an 11th is not",
                "9 x format 9999 7 7; format 0 1 0 = 10; format 0 2 0 ! state; run 5 6 7; account 0 = 6");
        Story.test("3 arguments out of range are told before an 11th format",
                "10 x format 9 1 1; format -1 1 1 ! argument; format 10000 1 1 ! argument;"
                + "format 0 -1 1 ! argument; format 0 8 1 ! argument; format 0 1 -1 ! argument;"
                + "format 0 1 8 ! argument; format 0 1 1 ! state");
        Story.test("3 the account stands at line 0 of eight",
                "format 0 0 1; run 11 6 13 14 15 16 17 18; account 0 = 11");
        Story.test("3 the account stands at line 7 of eight",
                "format 0 7 1; run 11 6 13 14 15 16 17 18; account 0 = 18");
        Story.test("3 the kind stands at line 0 of eight", "format 0 1 0; run 11 6 14 14 14 14 14 14; kind 0 = 3");
        Story.test("3 the kind stands at line 7 of eight", "format 0 1 7; run 14 6 14 14 14 14 14 11; kind 0 = 3");
    }

    private static void formatThatCounts() {
        Story.test("3 a format does not count on the day before its own",
                "format 5 2 0; pass 4; run 11 22 33; account 0 = 11; kind 0 = 2");
        Story.test("3 a format counts on its own day",
                "format 5 2 0; pass 5; run 11 22 33; account 0 = 33; kind 0 = 3");
        Story.test("3 a format counts on days behind its own",
                "format 5 2 0; pass 6; run 11 22 33; account 0 = 33; pass 1000; run 11 22 33; account 1 = 33");
        Story.test("3 a format of day 9999 counts on that day alone",
                "format 9999 2 0; 9 x pass 1000; pass 998; run 11 22 33; account 0 = 11; pass 1 = 9999;"
                + "run 11 22 33; account 1 = 33");
        Story.test("3 the latest day counts up to the day before the next",
                "format 3 1 0; format 5 2 0; pass 4; run 11 22 33; account 0 = 22; pass 1; run 11 22 33;"
                + "account 1 = 33");
        Story.test("3 the latest day counts, also if it was told first",
                "format 5 2 0; format 3 1 0; pass 5; run 11 22 33; account 0 = 33");
        Story.test("3 a later day counts though an earlier one is told last",
                "format 0 1 1; format 2 2 2; format 1 0 0; pass 1; run 11 22 33; account 0 = 11; pass 1;"
                + "run 11 22 33; account 1 = 33; kind 1 = 1");
        Story.test("3 of the same day the one told last counts",
                "format 5 2 0; format 5 1 2; pass 5; run 11 22 33; account 0 = 22; kind 0 = 1");
        Story.test("3 of the same day the one told last counts, with others between",
                "format 5 2 0; format 6 0 0; format 5 1 2; format 4 0 0; pass 5; run 11 22 33; account 0 = 22;"
                + "kind 0 = 1");
        Story.test("3 of three formats of day 0 the last counts",
                "format 0 2 2; format 0 0 0; format 0 1 0; run 11 22 33; account 0 = 22; kind 0 = 3");
        Story.test("3 a format told while the run is open counts",
                "line 11; line 22; format 0 1 0; end; account 0 = 22; kind 0 = 3");
        Story.test("3 a format told behind the end does not count",
                "run 11 22; format 0 1 0; account 0 = 11; kind 0 = 2; run 11 22; account 0 = 11; account 1 = 22");
        Story.test("3 the day of the end counts, not that of the first line",
                "format 1 1 0; line 11; line 22; pass 1; end; account 0 = 22; kind 0 = 3");
        Story.test("3 a format that is refused does not count",
                "10 x format 0 1 0; format 0 2 2 ! state; run 11 22 33; account 0 = 22; kind 0 = 3");
    }

    private static void usualFormat() {
        Story.test("3 the account stands at line 0 as long as nothing is told", "run 11 22 33; account 0 = 11");
        Story.test("3 the kind stands at line 1 as long as nothing is told", "run 11 22 33; kind 0 = 2");
        Story.test("3 a format told for day 0 counts from day 0 on",
                "format 0 2 0; run 11 22 33; account 0 = 33; kind 0 = 3");
        Story.test("3 a format told for day 1 leaves day 0 alone",
                "format 1 2 0; run 11 22 33; account 0 = 11; kind 0 = 2; pass 1; run 11 22 33; account 1 = 33;"
                + "kind 1 = 3");
    }
}
