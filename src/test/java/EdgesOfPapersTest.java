/** The boundary sentences of promises 11 to 14: papers, where they come from, holdings, what is sold double. */
final class EdgesOfPapersTest {
    private EdgesOfPapersTest() {
    }

    public static void main(String[] args) {
        fortiethPaperIsTheLast();
        refusedPaperTakesNoNumber();
        sellerMustHaveAHolding();
        holdingsDoNotFallBySelling();
        holdingInAnotherBulbIsNone();
        leastAndGreatestPrice();
        greatestPaper();
        wineIsCut();
        mostAtMost();
        noWine();
        depositIsCut();
        depositAtItsBounds();
        buyerHasJustBoth();
        buyerWithOnlyOneOfBoth();
        nothingToPay();
        moneyGoesOnlyWhereItShould();
        termsOfTheDayCount();
        owedIsNeverBelowNothing();
        monthInWhichItWasTold();
        comesFromNone();
        comesFromTheLatest();
        laterPapersChangeNoChain();
        longestChain();
        mostAndFewestHoldings();
        soldDoubleByOneMore();
        doublesCountEachOnce();
        mostDoubles();
        Check.finish();
    }

    /** Persons with these purses and one bulb, planted by 0, that never grows. */
    private static BulbPapers oneBulb(int weight, int... purses) {
        BulbPapers x = new BulbPapers();
        for (int purse : purses) {
            x.person(purse);
        }
        for (int month = 0; month < 7; month++) {
            x.growth(0, month, 0);
        }
        x.bulb(0, 0, weight);
        return x;
    }

    /** The facts of the only paper, of a bulb of this weight at this price, by this text. */
    private static void fact(String text, int weight, int price, int what, int due) {
        BulbPapers x = oneBulb(weight, 0, 100000);
        Text.house(x, text);
        Check.due("paper of " + weight + " at " + price, x.paper(0, 1, 0, price), 0);
        String call = "'" + text + "': paperOf(0, " + what + ") of " + price + " * " + weight;
        Check.due(call, x.paperOf(0, what), due);
    }

    private static void wine(String text, int weight, int price, int due) {
        fact(text, weight, price, 6, due);
    }

    private static void deposit(String text, int weight, int price, int due) {
        fact(text, weight, price, 5, due);
    }

    /** "PAPERS 0 .. 39"; "or there are 40". */
    private static void fortiethPaperIsTheLast() {
        BulbPapers x = oneBulb(1, 0, 0);
        for (int paper = 0; paper < 39; paper++) {
            x.paper(0, 1, 0, 1);
        }
        Check.due("the fortieth", x.paper(0, 1, 0, 10), 39);
        for (int again = 0; again < 3; again++) {
            Check.due("a 41st", x.paper(0, 1, 0, 9), -1);
        }
        Check.due("about(2)", x.about(2), 40);
        Check.due("paperOf(39, 3)", x.paperOf(39, 3), 10);
        Check.due("paperOf(40, 3)", x.paperOf(40, 3), -1);
        Check.due("holds(1, 0)", x.holds(1, 0), 40);
    }

    /** "A PAPER: its number." */
    private static void refusedPaperTakesNoNumber() {
        BulbPapers x = oneBulb(1, 0, 0);
        Check.due("price 0", x.paper(0, 1, 0, 0), -1);
        Check.due("the first", x.paper(0, 1, 0, 4), 0);
        Check.due("price 11", x.paper(0, 1, 0, 11), -1);
        Check.due("the second", x.paper(1, 0, 0, 5), 1);
        Check.due("paperOf(1, 3)", x.paperOf(1, 3), 5);
        Check.due("about(2)", x.about(2), 2);
    }

    /** "A SELLER must have a HOLDING in it": by planting, or by one PAPER. */
    private static void sellerMustHaveAHolding() {
        BulbPapers x = oneBulb(1, 0, 0, 0);
        Check.due("1 has none", x.paper(1, 2, 0, 1), -1);
        Check.due("0 planted it", x.paper(0, 1, 0, 1), 0);
        Check.due("2 has none", x.paper(2, 1, 0, 1), -1);
        Check.due("1 bought it", x.paper(1, 2, 0, 1), 1);
        Check.due("2 bought it", x.paper(2, 0, 0, 1), 2);
    }

    /** "HOLDINGS: its PLANTER has one, the BUYER of each PAPER of it one more": selling takes none away. */
    private static void holdingsDoNotFallBySelling() {
        BulbPapers x = oneBulb(1, 0, 0, 0);
        Check.due("0 sells", x.paper(0, 1, 0, 1), 0);
        Check.due("0 sells again", x.paper(0, 1, 0, 1), 1);
        Check.due("0 sells a third time", x.paper(0, 2, 0, 1), 2);
        for (int sold = 1; sold <= 5; sold++) {
            Check.due("2 sells what it bought once", x.paper(2, 1, 0, 1), 2 + sold);
            Check.due("holds(2, 0)", x.holds(2, 0), 1 - sold);
        }
    }

    /** "the SELLER has no HOLDING": one in another BULB does not help. */
    private static void holdingInAnotherBulbIsNone() {
        BulbPapers x = oneBulb(1, 0, 0, 0);
        x.bulb(1, 0, 1);
        x.bulb(2, 0, 1);
        Check.due("0 sells 1", x.paper(0, 1, 1, 1), -1);
        Check.due("1 sells 0", x.paper(1, 0, 0, 1), -1);
        Check.due("1 sells 2", x.paper(1, 0, 2, 1), -1);
        Check.due("2 sells 1", x.paper(2, 0, 1, 1), -1);
        Check.due("2 sells 2 to 1", x.paper(2, 1, 2, 1), 0);
        Check.due("1 still doesn't sell 0", x.paper(1, 2, 0, 1), -1);
        Check.due("1 sells 2", x.paper(1, 0, 2, 1), 1);
        Check.due("holds(1, 0)", x.holds(1, 0), 0);
        Check.due("holds(1, 1)", x.holds(1, 1), 1);
    }

    /** "a PRICE (1 .. 10 coins for one of WEIGHT)" */
    private static void leastAndGreatestPrice() {
        fact("", 1, 1, 4, 1);
        fact("", 200, 1, 4, 200);
        fact("", 1, 10, 4, 10);
        fact("", 200, 10, 4, 2000);
    }

    /** The greatest WEIGHT, GROWTH, PRICE, wine, most and deposit there are. */
    private static void greatestPaper() {
        BulbPapers x = new BulbPapers();
        x.person(0);
        x.person(100000);
        for (int month = 0; month < 7; month++) {
            x.growth(0, month, 20);
        }
        x.bulb(0, 0, 200);
        Text.house(x, "wine 200;most 100;deposit 100;");
        Check.due("in month 0", x.paper(0, 1, 0, 10), 0);
        Check.due("its DUE", x.paperOf(0, 4), 7140);
        Check.due("its DEPOSIT", x.paperOf(0, 5), 2000);
        Check.due("its WINE", x.paperOf(0, 6), 100);
        Check.due("OWED", x.paperOf(0, 10), 5140);
        for (int month = 0; month < 7; month++) {
            x.month();
        }
        Check.due("in SPRING", x.paper(0, 1, 0, 10), 1);
        Check.due("its DUE", x.paperOf(1, 4), 7140);
        Check.due("its DEPOSIT", x.paperOf(1, 5), 7140);
        Check.due("its WINE", x.paperOf(1, 6), 100);
        Check.due("OWED", x.paperOf(1, 10), 0);
        Check.due("purse(0)", x.purse(0), 9140);
        Check.due("purse(1)", x.purse(1), 100000 - 9140 - 200);
    }

    /** "WINE: NOW * wine / 1000, cut" */
    private static void wineIsCut() {
        wine("", 39, 1, 0);
        wine("", 40, 1, 1);
        wine("", 79, 1, 1);
        wine("", 80, 1, 2);
        wine("", 119, 1, 2);
        wine("", 120, 1, 3);
        wine("wine 1;most 100;", 111, 9, 0);
        wine("wine 1;most 100;", 100, 10, 1);
        wine("wine 1;most 100;", 199, 10, 1);
        wine("wine 1;most 100;", 200, 10, 2);
        wine("wine 200;most 100;", 4, 1, 0);
        wine("wine 200;most 100;", 5, 1, 1);
        wine("wine 200;most 100;", 9, 1, 1);
        wine("wine 199;most 100;", 200, 1, 39);
        wine("wine 199;most 100;", 5, 1, 0);
    }

    /** "most at most" */
    private static void mostAtMost() {
        wine("", 159, 1, 3);
        wine("", 160, 1, 3);
        wine("", 200, 10, 3);
        wine("wine 200;most 100;", 99, 5, 99);
        wine("wine 200;most 100;", 100, 5, 100);
        wine("wine 200;most 100;", 101, 5, 100);
        wine("wine 200;most 100;", 200, 10, 100);
        wine("wine 200;most 1;", 4, 1, 0);
        wine("wine 200;most 1;", 5, 1, 1);
        wine("wine 200;most 1;", 10, 1, 1);
        wine("wine 50;most 99;", 198, 10, 99);
        wine("wine 50;most 99;", 196, 10, 98);
        wine("wine 50;most 99;", 200, 10, 99);
    }

    /** A wine of 0, or 0 coins at most, is no WINE at all. */
    private static void noWine() {
        wine("wine 0;most 100;", 200, 10, 0);
        wine("wine 200;most 0;", 200, 10, 0);
        wine("most 0;", 200, 10, 0);
    }

    /** "DEPOSIT: NOW * deposit / 100, cut" */
    private static void depositIsCut() {
        deposit("deposit 1;", 99, 1, 0);
        deposit("deposit 1;", 100, 1, 1);
        deposit("deposit 1;", 199, 1, 1);
        deposit("deposit 1;", 200, 1, 2);
        deposit("deposit 99;", 1, 1, 0);
        deposit("deposit 99;", 2, 1, 1);
        deposit("deposit 99;", 100, 1, 99);
        deposit("deposit 50;", 3, 1, 1);
        deposit("deposit 50;", 3, 3, 4);
    }

    /** "deposit (0 .. 100 hundredths; without: 0)" */
    private static void depositAtItsBounds() {
        deposit("", 200, 10, 0);
        deposit("deposit 0;", 200, 10, 0);
        deposit("deposit 100;", 1, 1, 1);
        deposit("deposit 100;", 200, 10, 2000);
    }

    /** "it must have both": a purse of just that much is enough, of one coin less is not. */
    private static void buyerHasJustBoth() {
        for (int purse = 28; purse <= 32; purse++) {
            BulbPapers x = oneBulb(100, 7, purse);
            Text.house(x, "wine 100;most 10;deposit 20;");
            boolean isEnough = purse >= 30;
            Check.due("a purse of " + purse, x.paper(0, 1, 0, 1), isEnough ? 0 : -1);
            Check.due("purse(1)", x.purse(1), isEnough ? purse - 30 : purse);
            Check.due("purse(0)", x.purse(0), isEnough ? 27 : 7);
            Check.due("about(7)", x.about(7), isEnough ? 10 : 0);
            Check.due("about(2)", x.about(2), isEnough ? 1 : 0);
            Check.due("holds(1, 0)", x.holds(1, 0), isEnough ? 1 : 0);
        }
    }

    /** "it must have both": one of them alone is not enough, whichever it is. */
    private static void buyerWithOnlyOneOfBoth() {
        BulbPapers x = oneBulb(100, 0, 20);
        Text.house(x, "wine 10;most 10;deposit 20;");
        Check.due("enough for the DEPOSIT", x.paper(0, 1, 0, 1), -1);
        Text.house(x, "wine 200;most 100;deposit 1;");
        Check.due("enough for the WINE", x.paper(0, 1, 0, 1), -1);
        Text.house(x, "wine 200;most 100;");
        Check.due("the WINE alone", x.paper(0, 1, 0, 1), 0);
        Check.due("purse(1)", x.purse(1), 0);
        BulbPapers y = oneBulb(100, 0, 20);
        Text.house(y, "wine 0;deposit 20;");
        Check.due("the DEPOSIT alone", y.paper(0, 1, 0, 1), 0);
        Check.due("purse(1)", y.purse(1), 0);
    }

    /** Where nothing is to be paid at once, an empty purse is enough. */
    private static void nothingToPay() {
        BulbPapers x = oneBulb(39, 0, 0);
        Check.due("WINE cut to 0", x.paper(0, 1, 0, 1), 0);
        Check.due("WINE of 1", x.paper(0, 1, 0, 2), -1);
        Text.house(x, "wine 0;");
        Check.due("no WINE", x.paper(0, 1, 0, 10), 1);
        Check.due("purse(1)", x.purse(1), 0);
    }

    /** "The BUYER pays WINE to THE HOUSE and the DEPOSIT to the SELLER at once": a third one is untouched. */
    private static void moneyGoesOnlyWhereItShould() {
        BulbPapers x = oneBulb(100, 50, 50, 50, 50);
        Text.house(x, "wine 50;most 5;deposit 10;");
        x.paper(0, 1, 0, 1);
        x.paper(1, 2, 0, 2);
        int[] due = {60, 50 - 15 + 20, 50 - 25, 50};
        for (int person = 0; person < due.length; person++) {
            Check.due("purse(" + person + ")", x.purse(person), due[person]);
        }
        Check.due("about(7)", x.about(7), 10);
    }

    /** NOW is of the clock's MONTH, the terms are of THE HOUSE of then; told papers stay as they are. */
    private static void termsOfTheDayCount() {
        BulbPapers x = new BulbPapers();
        x.person(10000);
        x.person(10000);
        x.bulb(0, 0, 100);
        x.paper(0, 1, 0, 1);
        Text.house(x, "wine 100;most 100;deposit 50;");
        x.month();
        x.paper(0, 1, 0, 1);
        x.house();
        x.month();
        x.paper(0, 1, 0, 1);
        int[][] due = {{193, 0, 2, 0, 193}, {193, 55, 11, 1, 138}, {193, 0, 3, 2, 193}};
        for (int paper = 0; paper < due.length; paper++) {
            int[] whats = {4, 5, 6, 7, 10};
            for (int i = 0; i < whats.length; i++) {
                String call = "paperOf(" + paper + ", " + whats[i] + ")";
                Check.due(call, x.paperOf(paper, whats[i]), due[paper][i]);
            }
        }
        Check.due("about(7)", x.about(7), 16);
    }

    /** "OWED of a PAPER: DUE less its DEPOSIT, 0 at least" */
    private static void owedIsNeverBelowNothing() {
        fact("wine 0;deposit 100;", 200, 10, 10, 0);
        fact("wine 0;deposit 100;", 1, 1, 10, 0);
        fact("wine 0;deposit 99;", 1, 1, 10, 1);
        fact("wine 0;deposit 99;", 100, 1, 10, 1);
        fact("wine 0;", 200, 10, 10, 2000);
    }

    /** "7 the MONTH in which it was told": each of 0 .. 7. */
    private static void monthInWhichItWasTold() {
        BulbPapers x = oneBulb(1, 0, 0);
        for (int month = 0; month <= 7; month++) {
            Check.due("paper in month " + month, x.paper(0, 1, 0, 1), month);
            Check.due("paperOf(" + month + ", 7)", x.paperOf(month, 7), month);
            x.month();
        }
    }

    /** "none, if there is none (its SELLER planted it)" */
    private static void comesFromNone() {
        BulbPapers x = oneBulb(1, 0, 0, 0);
        x.bulb(1, 0, 1);
        x.paper(1, 0, 1, 1);
        Check.due("paper of bulb 0", x.paper(0, 1, 0, 1), 1);
        Check.due("bought was only bulb 1", x.paperOf(1, 8), -1);
        Check.due("its chain", x.paperOf(1, 9), 1);
        x.paper(0, 2, 0, 1);
        Check.due("sold again, still of the planting", x.paperOf(2, 8), -1);
        Check.due("paper of bulb 1", x.paper(1, 2, 1, 1), 3);
        Check.due("bought was only bulb 0", x.paperOf(3, 8), -1);
        Check.due("its chain", x.paperOf(3, 9), 1);
    }

    /** "the latest PAPER of that BULB told ahead of it whose BUYER is its SELLER" */
    private static void comesFromTheLatest() {
        BulbPapers x = oneBulb(1, 0, 0, 0, 0);
        x.paper(0, 1, 0, 1);
        x.paper(0, 1, 0, 1);
        x.paper(0, 2, 0, 1);
        Check.due("of two", x.paper(1, 3, 0, 1), 3);
        Check.due("the latest of two", x.paperOf(3, 8), 1);
        x.paper(2, 1, 0, 1);
        Check.due("2 bought but once", x.paperOf(4, 8), 2);
        x.paper(1, 0, 0, 1);
        Check.due("the latest of three", x.paperOf(5, 8), 4);
        Check.due("its chain", x.paperOf(5, 9), 3);
        x.paper(0, 3, 0, 1);
        Check.due("the planter that bought", x.paperOf(6, 8), 5);
        Check.due("its chain", x.paperOf(6, 9), 4);
        x.paper(3, 2, 0, 1);
        Check.due("the one just ahead", x.paperOf(7, 8), 6);
        Check.due("its chain", x.paperOf(7, 9), 5);
    }

    /** "told ahead of it": what its SELLER buys later is no part of its CHAIN. */
    private static void laterPapersChangeNoChain() {
        BulbPapers x = oneBulb(1, 0, 0);
        x.paper(0, 1, 0, 1);
        x.paper(1, 0, 0, 1);
        x.paper(0, 1, 0, 1);
        int[] from = {-1, 0, 1};
        for (int paper = 0; paper < from.length; paper++) {
            Check.due("paperOf(" + paper + ", 8)", x.paperOf(paper, 8), from[paper]);
            Check.due("paperOf(" + paper + ", 9)", x.paperOf(paper, 9), paper + 1);
        }
    }

    /** "Its CHAIN: itself, the one it COMES FROM, and so on": up to all 40. */
    private static void longestChain() {
        BulbPapers x = oneBulb(1, 0, 0, 0);
        for (int paper = 0; paper < 40; paper++) {
            x.paper(paper % 3, (paper + 1) % 3, 0, 1);
        }
        for (int paper = 0; paper < 40; paper++) {
            Check.due("paperOf(" + paper + ", 8)", x.paperOf(paper, 8), paper - 1);
            Check.due("paperOf(" + paper + ", 9)", x.paperOf(paper, 9), paper + 1);
        }
    }

    /** "HOLDINGS less the PAPERS in which it sold it (below 0: SOLD DOUBLE)" */
    private static void mostAndFewestHoldings() {
        BulbPapers x = oneBulb(1, 0, 0, 0);
        x.bulb(0, 0, 1);
        for (int paper = 0; paper < 40; paper++) {
            Check.due("holds(0, 0)", x.holds(0, 0), 1 - paper);
            Check.due("holds(1, 0)", x.holds(1, 0), paper);
            x.paper(0, 1, 0, 1);
        }
        Check.due("the fewest", x.holds(0, 0), -39);
        Check.due("the most", x.holds(1, 0), 40);
        Check.due("one that did nothing", x.holds(2, 0), 0);
        Check.due("another bulb of the seller", x.holds(0, 1), 1);
        Check.due("another bulb of the buyer", x.holds(1, 1), 0);
        Check.due("doubles()", x.doubles(), 1);
    }

    /** "SOLD DOUBLE by a PERSON if that sold it in more PAPERS than it has HOLDINGS": as many is not more. */
    private static void soldDoubleByOneMore() {
        BulbPapers x = oneBulb(1, 0, 0, 0);
        x.paper(0, 1, 0, 1);
        Check.due("one of one", x.doubles(), 0);
        x.paper(0, 1, 0, 1);
        Check.due("two of one", x.doubles(), 1);
        x.paper(1, 2, 0, 1);
        x.paper(1, 2, 0, 1);
        Check.due("two of two", x.doubles(), 1);
        Check.due("holds(1, 0)", x.holds(1, 0), 0);
        x.paper(1, 2, 0, 1);
        Check.due("three of two", x.doubles(), 2);
        Check.due("holds(1, 0)", x.holds(1, 0), -1);
        x.paper(2, 1, 0, 1);
        Check.due("three of three", x.doubles(), 1);
        x.paper(2, 0, 0, 1);
        Check.due("two of two", x.doubles(), 0);
    }

    /** "over PERSONS and BULBS, each once" */
    private static void doublesCountEachOnce() {
        BulbPapers x = oneBulb(1, 0, 0, 0);
        x.bulb(0, 0, 1);
        for (int sold = 0; sold < 5; sold++) {
            x.paper(0, 1, 0, 1);
        }
        Check.due("five times one bulb", x.doubles(), 1);
        for (int sold = 0; sold < 3; sold++) {
            x.paper(0, 2, 1, 1);
        }
        Check.due("a second bulb by one person", x.doubles(), 2);
        x.bulb(1, 0, 1);
        x.paper(1, 2, 2, 1);
        Check.due("one bulb once by another", x.doubles(), 2);
        x.paper(1, 2, 2, 1);
        Check.due("one bulb twice by another", x.doubles(), 3);
    }

    /** Twelve planters sell twice each, and eight of those that bought: 40 PAPERS hold no more doubles. */
    private static void mostDoubles() {
        BulbPapers x = oneBulb(1, 0, 0, 0, 0, 0, 0, 0, 0, 0, 0);
        for (int bulb = 1; bulb < 12; bulb++) {
            x.bulb(bulb % 10, 0, 1);
        }
        for (int bulb = 0; bulb < 12; bulb++) {
            x.paper(bulb % 10, (bulb + 1) % 10, bulb, 1);
            x.paper(bulb % 10, (bulb + 2) % 10, bulb, 1);
        }
        Check.due("doubles() of the planters", x.doubles(), 12);
        for (int bulb = 4; bulb < 12; bulb++) {
            x.paper((bulb + 1) % 10, (bulb + 5) % 10, bulb, 1);
            x.paper((bulb + 1) % 10, (bulb + 6) % 10, bulb, 1);
        }
        Check.due("about(2)", x.about(2), 40);
        Check.due("doubles() of all", x.doubles(), 20);
    }
}
