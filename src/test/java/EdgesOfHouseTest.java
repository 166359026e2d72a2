/** The boundary sentences of promises 7 to 10: the tape, THE HOUSE's text, its faults. */
final class EdgesOfHouseTest {
    private EdgesOfHouseTest() {
    }

    public static void main(String[] args) {
        feedFromEveryLength();
        endToEveryLength();
        highestByteFirst();
        bytesOfAnyInt();
        bytesBeyondTheEndAreGone();
        tapeOfTheHouseIsGone();
        textsOf120Bytes();
        emptyTexts();
        numbersAtTheirBounds();
        numbersThatWrapAround();
        clausesNoneToThree();
        withoutAClause();
        firstFaultCounts();
        leastFaultOfAToken();
        faultOfTheEnd();
        blanksAside();
        tokensSideBySide();
        formerHouseStays();
        tapeIsEmptyBehindAFault();
        faultAheadOfAny();
        faultOfTheLatestAlone();
        Check.finish();
    }

    private static void fillTo(BulbPapers x, int length) {
        for (int fed = 0; fed < length; fed += 20) {
            x.feed(0x20202020, 0x20202020, 0x20202020, 0x20202020, 0x20202020);
        }
        Check.due("end(" + length + ")", x.end(length), length);
    }

    private static void fault(String run, BulbPapers x, int fault, int place) {
        Check.due(run + ": house()", x.house(), -1);
        Check.due(run + ": fault(0)", x.fault(0), fault);
        Check.due(run + ": fault(1)", x.fault(1), place);
    }

    private static void bad(String text, int fault, int place) {
        BulbPapers x = new BulbPapers();
        Text.put(x, text);
        fault("'" + text + "'", x, fault, place);
    }

    private static void terms(String run, BulbPapers x, int wine, int most, int deposit) {
        Check.due(run + ": wine", x.about(4), wine);
        Check.due(run + ": most", x.about(5), most);
        Check.due(run + ": deposit", x.about(6), deposit);
    }

    private static void good(String text, int clauses, int wine, int most, int deposit) {
        BulbPapers x = new BulbPapers();
        Check.due("house() of '" + text + "'", Text.house(x, text), clauses);
        terms("'" + text + "'", x, wine, most, deposit);
        Check.due("fault(0) of '" + text + "'", x.fault(0), 0);
        Check.due("fault(1) of '" + text + "'", x.fault(1), -1);
    }

    /** "NONE, and none come, if there would be more than 120": from 100 they come, from 101 not. */
    private static void feedFromEveryLength() {
        for (int length = 0; length <= 120; length++) {
            BulbPapers x = new BulbPapers();
            fillTo(x, length);
            int due = length <= 100 ? length + 20 : -1;
            Check.due("feed behind " + length, x.feed(1, 2, 3, 4, 5), due);
            Check.due("about(8) behind it", x.about(8), Math.max(due, length));
        }
    }

    /** "The tape has its first n bytes alone: n. NONE, and nothing is done, if it has not so many" */
    private static void endToEveryLength() {
        for (int n = -2; n <= 122; n++) {
            BulbPapers x = new BulbPapers();
            fillTo(x, 61);
            boolean isTaken = n >= 0 && n <= 61;
            Check.due("end(" + n + ") of 61", x.end(n), isTaken ? n : -1);
            Check.due("about(8) behind it", x.about(8), isTaken ? n : 61);
        }
        BulbPapers y = new BulbPapers();
        fillTo(y, 30);
        Check.due("end(10)", y.end(10), 10);
        Check.due("end(11), it has not so many now", y.end(11), -1);
        Check.due("end(10) again", y.end(10), 10);
    }

    /** "Twenty bytes come behind the tape, the highest of a first": each at its place. */
    private static void highestByteFirst() {
        for (int place = 0; place < 20; place++) {
            byte[] bytes = new byte[20];
            java.util.Arrays.fill(bytes, (byte) ' ');
            bytes[place] = (byte) '?';
            for (int before = 0; before <= 100; before += 25) {
                BulbPapers x = new BulbPapers();
                fillTo(x, before);
                x.feed(Text.four(bytes, 0), Text.four(bytes, 4), Text.four(bytes, 8), Text.four(bytes, 12),
                        Text.four(bytes, 16));
                fault("byte " + place + " behind " + before, x, 1, before + place);
            }
        }
    }

    /** An int of any sign is four bytes: 255 and 128 are bytes that are no TOKENS. */
    private static void bytesOfAnyInt() {
        for (int odd : new int[] {-1, Integer.MIN_VALUE, Integer.MAX_VALUE, 0x80202020, 0xA0202020}) {
            int blank = 0x20202020;
            for (int place = 0; place < 5; place++) {
                BulbPapers x = new BulbPapers();
                int[] f = {blank, blank, blank, blank, blank};
                f[place] = odd;
                Check.due("feed with " + odd, x.feed(f[0], f[1], f[2], f[3], f[4]), 20);
                fault("int " + odd + " at " + place, x, 1, place * 4);
            }
        }
    }

    /** "The tape has its first n bytes alone": what was behind them is no part of a text. */
    private static void bytesBeyondTheEndAreGone() {
        int[] ends = {6, 5, 4, 3};
        int[] places = {6, 5, 4, 0};
        for (int i = 0; i < ends.length; i++) {
            BulbPapers x = new BulbPapers();
            Text.put(x, "wine 5;");
            x.end(ends[i]);
            fault("'wine 5;' cut to " + ends[i], x, 1, places[i]);
        }
        BulbPapers y = new BulbPapers();
        Text.put(y, "wine 5;?");
        y.end(7);
        Check.due("house() without the ?", y.house(), 1);
        BulbPapers z = new BulbPapers();
        Text.put(z, "wine 199;");
        z.end(6);
        Text.put(z, ";most 7;");
        Check.due("house() of 'wine 1;most 7;'", z.house(), 2);
        terms("a number cut short", z, 1, 7, 0);
    }

    /** "The tape (empty then) becomes THE HOUSE": the next text begins anew. */
    private static void tapeOfTheHouseIsGone() {
        BulbPapers x = new BulbPapers();
        Check.due("house()", Text.house(x, "wine 5;most 6;"), 2);
        Check.due("about(8)", x.about(8), 0);
        Check.due("end(1)", x.end(1), -1);
        Check.due("feed from 0", x.feed(0x64657073, 0, 0, 0, 0), 20);
        x.end(0);
        Check.due("house() again", x.house(), 0);
        terms("an empty text", x, 25, 3, 0);
    }

    /** "a text of up to 120 bytes" */
    private static void textsOf120Bytes() {
        good(" ".repeat(120), 0, 25, 3, 0);
        good(" ".repeat(113) + "wine 5;", 1, 5, 3, 0);
        good("wine 5;" + " ".repeat(113), 1, 5, 3, 0);
        good("wine " + "0".repeat(111) + "200;", 1, 200, 3, 0);
        good("wine 1;" + " ".repeat(50) + "most 2;" + " ".repeat(46) + "deposit 3;", 3, 1, 2, 3);
        bad(" ".repeat(119) + "?", 1, 119);
        bad(" ".repeat(114) + "wine 5", 1, 120);
        bad("wine" + " ".repeat(116), 1, 120);
        bad("wine " + "0".repeat(111) + "201;", 3, 5);
        bad("wine " + "9".repeat(115), 3, 5);
        bad("x".repeat(120), 1, 0);
        bad("wine5;" + "most6;" + " ".repeat(107) + "w", 1, 119);
        bad(";".repeat(120), 1, 0);
    }

    /** A text without TOKENS has no CLAUSES and no FAULT. */
    private static void emptyTexts() {
        for (int length = 0; length <= 120; length += 15) {
            BulbPapers x = new BulbPapers();
            Text.house(x, "wine 1;most 2;deposit 3;");
            fillTo(x, length);
            Check.due("house() of " + length + " blanks", x.house(), 0);
            terms(length + " blanks", x, 25, 3, 0);
            Check.due("fault(0) of " + length + " blanks", x.fault(0), 0);
            Check.due("fault(1) of " + length + " blanks", x.fault(1), -1);
        }
    }

    /** "wine (0 .. 200 thousandths), most (0 .. 100 coins), deposit (0 .. 100 hundredths)" */
    private static void numbersAtTheirBounds() {
        for (int n = 0; n <= 1100; n++) {
            BulbPapers x = new BulbPapers();
            Check.due("wine " + n, Text.house(x, "wine " + n + ";"), n <= 200 ? 1 : -1);
            Check.due("wine " + n + ": fault(0)", x.fault(0), n <= 200 ? 0 : 3);
            terms("wine " + n, x, n <= 200 ? n : 25, 3, 0);
            BulbPapers y = new BulbPapers();
            Check.due("most " + n, Text.house(y, "most " + n + ";"), n <= 100 ? 1 : -1);
            terms("most " + n, y, 25, n <= 100 ? n : 3, 0);
            BulbPapers z = new BulbPapers();
            Check.due("deposit " + n, Text.house(z, "deposit " + n + ";"), n <= 100 ? 1 : -1);
            terms("deposit " + n, z, 25, 3, n <= 100 ? n : 0);
        }
    }

    /** "3 a NUMBER that isn't one of those told": however long it is. */
    private static void numbersThatWrapAround() {
        String[] wrapping = {"256", "65536", "2147483647", "2147483648", "4294967295", "4294967296", "4294967301",
            "9223372036854775808", "18446744073709551615", "18446744073709551616", "18446744073709551621",
            "340282366920938463463374607431768211461", "1" + "0".repeat(32), "1" + "0".repeat(64),
            "5" + "0".repeat(99)};
        for (String number : wrapping) {
            bad("wine " + number + ";", 3, 5);
            bad("most " + number + ";", 3, 5);
            bad("deposit " + number + ";", 3, 8);
        }
        good("wine 00;most 0000000005;deposit 0100;", 3, 0, 5, 100);
    }

    /** "how many CLAUSES": a fourth has no WORD left. */
    private static void clausesNoneToThree() {
        good("", 0, 25, 3, 0);
        good("most 4;", 1, 25, 4, 0);
        good("most 4;wine 4;", 2, 4, 4, 0);
        good("most 4;wine 4;deposit 4;", 3, 4, 4, 4);
        bad("most 4;wine 4;deposit 4;wine 4;", 2, 24);
        bad("most 4;wine 4;deposit 4;most 4;", 2, 24);
        bad("most 4;wine 4;deposit 4;deposit 4;", 2, 24);
        bad("most 4;wine 4;deposit 4;beer 4;", 1, 24);
        bad("most 4;wine 4;deposit 4;;", 1, 24);
    }

    /** "without: 25", "without: 3", "without: 0": whatever the former text told. */
    private static void withoutAClause() {
        BulbPapers x = new BulbPapers();
        Text.house(x, "wine 1;most 2;deposit 3;");
        Check.due("house()", Text.house(x, "most 9;"), 1);
        terms("most alone", x, 25, 9, 0);
        Check.due("house()", Text.house(x, "wine 9;"), 1);
        terms("wine alone", x, 9, 3, 0);
        Check.due("house()", Text.house(x, "deposit 9;"), 1);
        terms("deposit alone", x, 25, 3, 9);
    }

    /** "FAULTS, the first as TOKENS are come to, at the TOKEN's first byte" */
    private static void firstFaultCounts() {
        bad("wine 201;?", 3, 5);
        bad("wine 5;wine 999;", 2, 7);
        bad("wine 5;most 101;wine 5;", 3, 12);
        bad("wine 5;wine 5;?", 2, 7);
        bad("? wine 999;", 1, 0);
        bad("wine    201", 3, 8);
        bad("wine 5;     wine", 2, 12);
        bad("wine 5 ?", 1, 7);
        bad("wine 5;;wine 5;", 1, 7);
    }

    /** "of one the least": what can't stand there is 1, though it is a second WORD or too high a NUMBER too. */
    private static void leastFaultOfAToken() {
        bad("wine 5;most wine 5;", 1, 12);
        bad("wine wine 5;", 1, 5);
        bad("wine 5 wine;", 1, 7);
        bad("wine 5 999;", 1, 7);
        bad("999;", 1, 0);
        bad("wine 5;999;", 1, 7);
    }

    /** "of the end at the length": blanks at the end count. */
    private static void faultOfTheEnd() {
        for (int blanks = 0; blanks < 15; blanks++) {
            String tail = " ".repeat(blanks);
            bad("wine" + tail, 1, 4 + blanks);
            bad("wine 5" + tail, 1, 6 + blanks);
            bad("wine 5;most" + tail, 1, 11 + blanks);
            bad("wine 5;most 0" + tail, 1, 13 + blanks);
        }
    }

    /** "TOKENS, blanks (32) aside": other white space is no blank. */
    private static void blanksAside() {
        good("  wine  5  ;  most  6  ;  ", 2, 5, 6, 0);
        good("wine5;most6;deposit7;", 3, 5, 6, 7);
        for (char white : new char[] {0, 9, 10, 11, 12, 13, 31, 33, 160}) {
            bad(white + "wine 5;", 1, 0);
            bad("wine" + white + "5;", 1, 4);
            bad("wine 5;" + white, 1, 7);
        }
        bad("wi ne 5;", 1, 0);
        bad("wine 1 2;", 1, 7);
    }

    /** "letters a .. z, A .. Z one behind the other, digits one behind the other": next to those they are none. */
    private static void tokensSideBySide() {
        for (char beside : new char[] {'`', '{', '@', '[', '/', ':', '<'}) {
            bad("wine" + beside + "5;", 1, 4);
            bad("wine 5" + beside + ";", 1, 6);
            bad(beside + "", 1, 0);
        }
        for (char letter : new char[] {'a', 'z', 'A', 'Z'}) {
            bad("wine" + letter + " 5;", 1, 0);
            bad(letter + "wine 5;", 1, 0);
            bad("wine " + letter + "5;", 1, 5);
        }
        good("wine 0;most 90;", 2, 0, 90, 0);
        bad("wINE 5;", 1, 0);
        bad("winE 5;", 1, 0);
        bad("Most 5;", 1, 0);
        bad("DEPOSIT 5;", 1, 0);
        bad("deposi 5;", 1, 0);
        bad("deposits 5;", 1, 0);
        bad("5wine;", 1, 0);
        bad("wine 5x;", 1, 6);
    }

    /** "NONE: it has a FAULT, the former one stays": at first that is the one without CLAUSES. */
    private static void formerHouseStays() {
        String[] faulty = {"wine 7;most 8;deposit 9", "wine 7;most 8;wine 7;", "wine 7;most 8;deposit 101;"};
        for (String text : faulty) {
            BulbPapers x = new BulbPapers();
            Check.due("house() of '" + text + "'", Text.house(x, text), -1);
            terms("'" + text + "' as the first", x, 25, 3, 0);
            Check.due("a good one", Text.house(x, "wine 1;most 2;deposit 3;"), 3);
            Check.due("house() of '" + text + "'", Text.house(x, text), -1);
            Check.due("house() of '" + text + "'", Text.house(x, text), -1);
            terms("'" + text + "' behind a good one", x, 1, 2, 3);
            Check.due("a half good one", Text.house(x, "most 2;"), 1);
            terms("nothing of the faulty one is left", x, 25, 2, 0);
        }
    }

    /** "The tape (empty then)": with a FAULT too. */
    private static void tapeIsEmptyBehindAFault() {
        BulbPapers x = new BulbPapers();
        Text.put(x, "wine");
        Check.due("house() of 'wine'", x.house(), -1);
        Check.due("about(8)", x.about(8), 0);
        Text.put(x, " 5;");
        fault("' 5;' is not behind 'wine'", x, 1, 1);
    }

    /** "NONE for others, and ahead of any." */
    private static void faultAheadOfAny() {
        BulbPapers x = new BulbPapers();
        Check.due("fault(0) of a new object", x.fault(0), -1);
        Check.due("fault(1) of a new object", x.fault(1), -1);
        Text.put(x, "?");
        Check.due("fault(0) ahead of any house()", x.fault(0), -1);
        Check.due("fault(1) ahead of any house()", x.fault(1), -1);
        BulbPapers y = new BulbPapers();
        y.house();
        Check.due("fault(0) behind a good one", y.fault(0), 0);
        Check.due("fault(1) behind a good one", y.fault(1), -1);
    }

    /** "Of the latest house()": a good one takes a former FAULT away, a tape that came since doesn't. */
    private static void faultOfTheLatestAlone() {
        BulbPapers x = new BulbPapers();
        Text.put(x, "  wine 201;");
        fault("first", x, 3, 7);
        Text.put(x, "?");
        Check.due("fault(0) with a new tape", x.fault(0), 3);
        Check.due("fault(1) with a new tape", x.fault(1), 7);
        fault("second", x, 1, 0);
        Text.put(x, "wine 1;wine 1;");
        fault("third", x, 2, 7);
        Check.due("a good one", Text.house(x, "wine 1;"), 1);
        Check.due("fault(0) behind a good one", x.fault(0), 0);
        Check.due("fault(1) behind a good one", x.fault(1), -1);
    }
}
