/** Promises 7 to 10: feed, end, house, fault; and the house's terms by about. */
final class HouseTest {
    private HouseTest() {
    }

    public static void main(String[] args) {
        tape();
        byteOrder();
        goodTexts();
        badTexts();
        strangeBytes();
        formerHouseStays();
        faultOfTheLatest();
        Check.finish();
    }

    private static void tape() {
        BulbPapers x = new BulbPapers();
        Check.due("end(0)", x.end(0), 0);
        Check.due("end(1) of an empty tape", x.end(1), -1);
        for (int i = 1; i <= 6; i++) {
            Check.due("feed " + i, x.feed(0, 0, 0, 0, 0), i * 20);
        }
        Check.due("feed beyond 120", x.feed(1, 2, 3, 4, 5), -1);
        Check.due("about(8)", x.about(8), 120);
        Check.due("end(121)", x.end(121), -1);
        Check.due("end(-1)", x.end(-1), -1);
        Check.due("end(least)", x.end(Integer.MIN_VALUE), -1);
        Check.due("about(8)", x.about(8), 120);
        Check.due("end(120)", x.end(120), 120);
        Check.due("end(101)", x.end(101), 101);
        Check.due("feed to 121", x.feed(1, 2, 3, 4, 5), -1);
        Check.due("end(100)", x.end(100), 100);
        Check.due("feed to 120", x.feed(1, 2, 3, 4, 5), 120);
        Check.due("end(0)", x.end(0), 0);
        Check.due("about(8)", x.about(8), 0);
    }

    private static void byteOrder() {
        BulbPapers x = new BulbPapers();
        x.feed(0x77696e65, 0x20373b6d, 0x6f737420, 0x31303b64, 0x65706f73);
        x.end(12);
        x.feed(0x38313b20, 0x20202020, 0x6465706f, 0x73697420, 0x33333b20);
        Check.due("house() of a tape in pieces", x.house(), 3);
        Check.due("wine", x.about(4), 7);
        Check.due("most", x.about(5), 81);
        Check.due("deposit", x.about(6), 33);
    }

    private static void goodTexts() {
        good("", 0, 25, 3, 0);
        good("     ", 0, 25, 3, 0);
        good("wine 0;", 1, 0, 3, 0);
        good("wine 200;", 1, 200, 3, 0);
        good("most 0;", 1, 25, 0, 0);
        good("most 100;", 1, 25, 100, 0);
        good("deposit 0;", 1, 25, 3, 0);
        good("deposit 100;", 1, 25, 3, 100);
        good("deposit1;most2;wine3;", 3, 3, 2, 1);
        good("   deposit    1  ;  most 2;wine   3   ;   ", 3, 3, 2, 1);
        good("wine 0000000000000000000000000000000000000000000000012;", 1, 12, 3, 0);
    }

    private static void good(String text, int clauses, int wine, int most, int deposit) {
        BulbPapers x = new BulbPapers();
        Text.house(x, "wine 1;most 1;deposit 1;");
        Check.due("house() of '" + text + "'", Text.house(x, text), clauses);
        Check.due("wine of '" + text + "'", x.about(4), wine);
        Check.due("most of '" + text + "'", x.about(5), most);
        Check.due("deposit of '" + text + "'", x.about(6), deposit);
        Check.due("tape behind '" + text + "'", x.about(8), 0);
        Check.due("fault(0) of '" + text + "'", x.fault(0), 0);
        Check.due("fault(1) of '" + text + "'", x.fault(1), -1);
        Check.due("fault(2) of '" + text + "'", x.fault(2), -1);
    }

    private static void badTexts() {
        bad("wine", 1, 4);
        bad("wine  ", 1, 6);
        bad("wine 5", 1, 6);
        bad("wine 5   ", 1, 9);
        bad(";", 1, 0);
        bad("  ;", 1, 2);
        bad("5", 1, 0);
        bad("wine;", 1, 4);
        bad("wine 5 6;", 1, 7);
        bad("wine 5;;", 1, 7);
        bad("wine 5; 7", 1, 8);
        bad("wine 5 most 6;", 1, 7);
        bad("wine most 6;", 1, 5);
        bad("wine wine 6;", 1, 5);
        bad("wine 5;wine;", 2, 7);
        bad("wine 5;most 1;deposit 1;  most 2;", 2, 26);
        bad("wine 5;most 1;deposit 1; x", 1, 25);
        bad("Wine 5;", 1, 0);
        bad("WINE 5;", 1, 0);
        bad("wines 5;", 1, 0);
        bad("win 5;", 1, 0);
        bad("beer 5;", 1, 0);
        bad("winemost 5;", 1, 0);
        bad("wine 201;", 3, 5);
        bad("wine 201", 3, 5);
        bad("most 101;", 3, 5);
        bad("deposit   101 ;", 3, 10);
        bad("wine 4294967296;", 3, 5);
        bad("wine 18446744073709551616;", 3, 5);
        bad("wine -1;", 1, 5);
        bad("wine 1.5;", 1, 6);
        bad("wine 5;most 999;wine 7;", 3, 12);
        bad("wine\t5;", 1, 4);
        bad("wine 5,", 1, 6);
        bad("wine 5; ?", 1, 8);
        bad("w ine 5;", 1, 0);
    }

    private static void bad(String text, int fault, int place) {
        BulbPapers x = new BulbPapers();
        Text.house(x, "wine 9;most 8;deposit 7;");
        Check.due("house() of '" + text + "'", Text.house(x, text), -1);
        Check.due("fault(0) of '" + text + "'", x.fault(0), fault);
        Check.due("fault(1) of '" + text + "'", x.fault(1), place);
        Check.due("fault(2) of '" + text + "'", x.fault(2), -1);
        Check.due("fault(-1) of '" + text + "'", x.fault(-1), -1);
        Check.due("wine behind '" + text + "'", x.about(4), 9);
        Check.due("most behind '" + text + "'", x.about(5), 8);
        Check.due("deposit behind '" + text + "'", x.about(6), 7);
        Check.due("tape behind '" + text + "'", x.about(8), 0);
    }

    private static void strangeBytes() {
        for (int one = 0; one < 256; one++) {
            boolean isBlank = one == ' ';
            boolean isLetter = one < 128 && Character.isLetter(one);
            boolean isDigit = one >= '0' && one <= '9';
            String text = "wine 5" + (char) one + ";";
            BulbPapers x = new BulbPapers();
            boolean isGood = isBlank || isDigit;
            Check.due("house() with byte " + one, Text.house(x, text), isGood ? 1 : -1);
            Check.due("fault(1) with byte " + one, x.fault(1), isGood ? -1 : one == ';' ? 7 : 6);
            String word = "wine" + (char) one + "5;";
            Check.due("word with byte " + one, Text.house(x, word), isGood ? 1 : -1);
            Check.due("place with byte " + one, x.fault(1), isGood ? -1 : isLetter ? 0 : 4);
        }
    }

    private static void formerHouseStays() {
        BulbPapers x = new BulbPapers();
        Check.due("house()", Text.house(x, "wine 100; deposit 50;"), 2);
        Check.due("house() with a fault behind good clauses", Text.house(x, "wine 1;most 2;deposit 3"), -1);
        Check.due("wine", x.about(4), 100);
        Check.due("most", x.about(5), 3);
        Check.due("deposit", x.about(6), 50);
        Check.due("an empty house", x.house(), 0);
        Check.due("wine", x.about(4), 25);
        Check.due("deposit", x.about(6), 0);
    }

    private static void faultOfTheLatest() {
        BulbPapers x = new BulbPapers();
        Check.due("fault(0) ahead of any", x.fault(0), -1);
        Text.put(x, "wine 201;");
        Check.due("fault(0) with a tape, ahead of any", x.fault(0), -1);
        x.house();
        Check.due("fault(0)", x.fault(0), 3);
        Text.put(x, "?");
        Check.due("fault(0) of the latest house()", x.fault(0), 3);
        x.house();
        Check.due("fault(0)", x.fault(0), 1);
        Check.due("fault(1)", x.fault(1), 0);
        x.house();
        Check.due("fault(0) of an empty tape", x.fault(0), 0);
        Check.due("fault(1) of an empty tape", x.fault(1), -1);
        Check.due("fault(greatest)", x.fault(Integer.MAX_VALUE), -1);
        Check.due("fault(least)", x.fault(Integer.MIN_VALUE), -1);
    }
}
