import java.util.function.Consumer;

/** The refusals that come from the object's state and not from a number out of bounds: nothing changes by them. */
final class RefusedCallsTest {
    private static final int NONE = -1;

    private RefusedCallsTest() {
    }

    public static void main(String[] args) {
        worldsAreWhatTheySay();
        eleventhPerson();
        growthWithBulbs();
        bulbInSpring();
        thirteenthBulb();
        monthInSpring();
        feedBeyond120();
        houseWithAFault();
        sellerIsBuyer();
        sellerWithoutAHolding();
        buyerThatCannotPay();
        fortyFirstPaper();
        Check.finish();
    }

    /** The other tests rest on these: a world that misses its limit would test nothing. */
    private static void worldsAreWhatTheySay() {
        BulbPapers x = new BulbPapers();
        Worlds.full(x);
        int[] due = {10, 12, 40, 7, 30, 9, 5, x.about(7), 120};
        for (int what = 0; what < due.length; what++) {
            Check.due("full: about(" + what + ")", x.about(what), due[what]);
        }
        Check.due("full: fault(0)", x.fault(0), 3);
        Check.due("full: fault(1)", x.fault(1), 13);
        Check.due("full: some fail", x.about(9) > 0, true);
        Check.due("full: some sold double", x.doubles() > 1, true);
        BulbPapers y = new BulbPapers();
        Worlds.inUse(y);
        int[] used = {3, 2, 5, 1, 50, 20, 10, 12 + 18 + 6 + 2 + 10, 7};
        for (int what = 0; what < used.length; what++) {
            Check.due("in use: about(" + what + ")", y.about(what), used[what]);
        }
        Check.due("in use: some fail", y.about(9) > 0, true);
        Check.due("in use: doubles()", y.doubles(), 1);
    }

    /** "NONE for others, or if there are 10." */
    private static void eleventhPerson() {
        Edges.refused("an eleventh person(0)", Worlds::full, x -> x.person(0), NONE);
        Edges.refused("an eleventh person(100000)", Worlds::full, x -> x.person(100000), NONE);
    }

    /** "False for others, or if there are BULBS." */
    private static void growthWithBulbs() {
        Edges.refused("growth(0, 0, 5) with bulbs", Worlds::inUse, x -> x.growth(0, 0, 5) ? 1 : 0, 0);
        Edges.refused("growth of a sort not planted", Worlds::inUse, x -> x.growth(4, 6, 20) ? 1 : 0, 0);
        Edges.refused("growth with 12 bulbs", Worlds::full, x -> x.growth(1, 6, 20) ? 1 : 0, 0);
    }

    private static void toSpring(BulbPapers x) {
        for (int month = 0; month < 7; month++) {
            x.month();
        }
    }

    private static void inUseInSpring(BulbPapers x) {
        Worlds.inUse(x);
        toSpring(x);
    }

    /** "NONE for others, in SPRING" */
    private static void bulbInSpring() {
        Edges.refused("bulb in spring", RefusedCallsTest::inUseInSpring, x -> x.bulb(0, 0, 9), NONE);
        Consumer<BulbPapers> unplanted = x -> {
            Worlds.unplanted(x);
            toSpring(x);
        };
        Edges.refused("a first bulb in spring", unplanted, x -> x.bulb(0, 0, 9), NONE);
    }

    /** "or if there are 12." */
    private static void thirteenthBulb() {
        Consumer<BulbPapers> twelve = x -> {
            Worlds.inUse(x);
            for (int bulb = 2; bulb < 12; bulb++) {
                Check.due("bulb " + bulb, x.bulb(0, 1, bulb), bulb);
            }
        };
        Edges.refused("a thirteenth bulb", twelve, x -> x.bulb(1, 0, 9), NONE);
    }

    /** "NONE in SPRING." */
    private static void monthInSpring() {
        Edges.refused("month() in spring", RefusedCallsTest::inUseInSpring, x -> x.month(), NONE);
        Edges.refused("month() in spring, full", Worlds::full, x -> x.month(), NONE);
    }

    /** "NONE, and none come, if there would be more than 120." */
    private static void feedBeyond120() {
        Edges.refused("feed behind 120 bytes", Worlds::full, x -> x.feed(1, 2, 3, 4, 5), NONE);
        Consumer<BulbPapers> to101 = x -> {
            Worlds.full(x);
            x.end(101);
        };
        Edges.refused("feed behind 101 bytes", to101, x -> x.feed(1, 2, 3, 4, 5), NONE);
    }

    /** "NONE: it has a FAULT, the former one stays." Only the tape and the fault are others then. */
    private static void houseWithAFault() {
        String[] faulty = {"?", "wine", "wine 8;wine 9;", "wine 8;most 9;deposit 101;", "wine 8;most 9;deposit 9"};
        for (String text : faulty) {
            Looks.alike("house() of '" + text + "'", x -> {
                Worlds.inUse(x);
                x.end(0);
                Check.due("house() of '" + text + "'", Text.house(x, text), NONE);
                // the fault is told anew by an empty text, and the former terms by one that tells them
                Check.due("wine", x.about(4), 50);
                Check.due("most", x.about(5), 20);
                Check.due("deposit", x.about(6), 10);
                Text.house(x, "wine 50;most 20;deposit 10;");
            }, x -> {
                Worlds.inUse(x);
                x.end(0);
                Text.house(x, "wine 50;most 20;deposit 10;");
            });
        }
    }

    /** "SELLER and BUYER are one" */
    private static void sellerIsBuyer() {
        Edges.refused("the planter to itself", Worlds::inUse, x -> x.paper(0, 0, 0, 1), NONE);
        Edges.refused("a buyer to itself", Worlds::inUse, x -> x.paper(2, 2, 1, 1), NONE);
        Edges.refused("one without a holding to itself", Worlds::unplanted, x -> x.paper(1, 1, 0, 1), NONE);
    }

    /** "the SELLER has no HOLDING" */
    private static void sellerWithoutAHolding() {
        Consumer<BulbPapers> twoBulbs = x -> {
            Worlds.unplanted(x);
            x.bulb(0, 0, 50);
            x.bulb(1, 0, 50);
        };
        Edges.refused("1 sells bulb 0", twoBulbs, x -> x.paper(1, 0, 0, 1), NONE);
        Edges.refused("0 sells bulb 1", twoBulbs, x -> x.paper(0, 1, 1, 1), NONE);
    }

    /** "it must have both": the wine money and the deposit. */
    private static void buyerThatCannotPay() {
        for (int purse = 0; purse < 25; purse++) {
            int coins = purse;
            Consumer<BulbPapers> poor = x -> {
                x.person(1000);
                x.person(coins);
                x.bulb(0, 0, 100);
                Text.house(x, "wine 50;most 100;deposit 20;");
            };
            Edges.refused("a buyer with " + purse + " of 25 coins", poor, x -> x.paper(0, 1, 0, 1), NONE);
        }
    }

    /** "or there are 40." */
    private static void fortyFirstPaper() {
        Edges.refused("a 41st paper", Worlds::full, x -> x.paper(9, 8, 9, 1), NONE);
        Edges.refused("a 41st paper by another", Worlds::full, x -> x.paper(1, 9, 1, 10), NONE);
    }
}
