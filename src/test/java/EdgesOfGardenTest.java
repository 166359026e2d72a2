/** The boundary sentences of promises 1 to 6 and 15: a new object, persons, growths, bulbs, months, weights. */
final class EdgesOfGardenTest {
    private EdgesOfGardenTest() {
    }

    public static void main(String[] args) {
        objectsShareNothing();
        refusedPersonTakesNoNumber();
        tenthPersonIsTheLast();
        purseIsBoundedOnlyAtFirst();
        growthIsTenAtFirst();
        growthCountsAsToldLast();
        growthUntilTheFirstBulb();
        growthInSpring();
        refusedBulbTakesNoNumber();
        twelfthBulbIsTheLast();
        anyPersonPlants();
        monthSixIsTheLastToPlantIn();
        clockStopsInSpring();
        weightFromThePlantingToSpring();
        weightDoesNotFollowTheClock();
        weightIsCutEachMonth();
        leastAndGreatestWeights();
        growthOfTheMonthsThatGoBy();
        Check.finish();
    }

    private static BulbPapers withPersons(int... purses) {
        BulbPapers x = new BulbPapers();
        for (int purse : purses) {
            x.person(purse);
        }
        return x;
    }

    private static void setGrowth(BulbPapers x, int sort, int v) {
        for (int month = 0; month < 7; month++) {
            Check.due("growth(" + sort + ", " + month + ", " + v + ")", x.growth(sort, month, v), true);
        }
    }

    private static void weights(String run, BulbPapers x, int bulb, int... due) {
        for (int month = 0; month < due.length; month++) {
            String call = run + ": weight(" + bulb + ", " + month + ")";
            Check.due(call, x.weight(bulb, month), due[month]);
        }
    }

    /** "No PERSONS, BULBS, PAPERS; THE HOUSE without CLAUSES; MONTH 0": whatever other objects have. */
    private static void objectsShareNothing() {
        Looks.alike("beside a full object", x -> {
            BulbPapers other = new BulbPapers();
            Worlds.full(other);
            Check.due("the other's papers", other.about(2), 40);
        }, Worlds::empty);
        Looks.alike("behind a full object", x -> {
            Worlds.inUse(x);
            Worlds.full(new BulbPapers());
        }, Worlds::inUse);
    }

    /** "A PERSON: its number. NONE for others" */
    private static void refusedPersonTakesNoNumber() {
        BulbPapers x = new BulbPapers();
        Check.due("person(-1)", x.person(-1), -1);
        Check.due("person(5) as the first", x.person(5), 0);
        Check.due("person(100001)", x.person(100001), -1);
        Check.due("person(6) as the second", x.person(6), 1);
        Check.due("about(0)", x.about(0), 2);
        Check.due("purse(1)", x.purse(1), 6);
    }

    /** "PERSONS 0 .. 9"; "or if there are 10". */
    private static void tenthPersonIsTheLast() {
        BulbPapers x = withPersons(0, 1, 2, 3, 4, 5, 6, 7, 8);
        Check.due("the tenth", x.person(9), 9);
        for (int again = 0; again < 3; again++) {
            Check.due("an eleventh", x.person(10), -1);
        }
        Check.due("about(0)", x.about(0), 10);
        Check.due("purse(9)", x.purse(9), 9);
    }

    /** "0 .. 100000 at first": later it may be above. */
    private static void purseIsBoundedOnlyAtFirst() {
        BulbPapers x = withPersons(100000, 100000);
        Text.house(x, "wine 0;deposit 100;");
        x.bulb(0, 0, 200);
        Check.due("a deposit of 2000", x.paper(0, 1, 0, 10), 0);
        Check.due("purse(0)", x.purse(0), 102000);
        Check.due("purse(1)", x.purse(1), 98000);
        Check.due("left(0, 0, 0)", x.left(0, 0, 0), 102000);
    }

    /** "a GROWTH for each MONTH 0 .. 6 (0 .. 20 hundredths; at first 10)" */
    private static void growthIsTenAtFirst() {
        BulbPapers x = withPersons(0);
        for (int sort = 0; sort < 5; sort++) {
            x.bulb(0, sort, 200);
            weights("at first", x, sort, 200, 220, 242, 266, 292, 321, 353, 388);
        }
    }

    /** "GROWTH: true": told again, the later one stands; one that is refused doesn't. */
    private static void growthCountsAsToldLast() {
        BulbPapers x = withPersons(0);
        x.growth(1, 2, 20);
        x.growth(1, 2, 0);
        x.growth(1, 2, 21);
        x.growth(1, 2, -1);
        x.growth(1, 3, 0);
        x.growth(1, 3, 20);
        x.bulb(0, 1, 200);
        weights("told last", x, 0, 200, 220, 242, 242, 290, 319, 350, 385);
    }

    /** "False for others, or if there are BULBS": a refused bulb is none. */
    private static void growthUntilTheFirstBulb() {
        BulbPapers x = withPersons(0);
        Check.due("a bulb too light", x.bulb(0, 0, 0), -1);
        Check.due("growth behind a refused bulb", x.growth(0, 0, 20), true);
        Check.due("the first bulb", x.bulb(0, 3, 1), 0);
        for (int sort = 0; sort < 5; sort++) {
            for (int month = 0; month < 7; month++) {
                Check.due("growth(" + sort + ", " + month + ", 7) with a bulb", x.growth(sort, month, 7), false);
            }
        }
        x.bulb(0, 0, 100);
        weights("growth that stayed", x, 1, 100, 120, 132, 145);
    }

    /** Nothing but BULBS bars a growth: not the clock either. */
    private static void growthInSpring() {
        BulbPapers x = withPersons(0);
        x.month();
        Check.due("growth of a month gone by", x.growth(0, 0, 5), true);
        for (int month = 1; month < 7; month++) {
            x.month();
        }
        Check.due("growth in spring", x.growth(4, 6, 5), true);
    }

    /** "A BULB is planted: its number. NONE for others" */
    private static void refusedBulbTakesNoNumber() {
        BulbPapers x = withPersons(0);
        Check.due("bulb(0, 0, 201)", x.bulb(0, 0, 201), -1);
        Check.due("the first", x.bulb(0, 0, 7), 0);
        Check.due("bulb(1, 0, 5)", x.bulb(1, 0, 5), -1);
        Check.due("the second", x.bulb(0, 0, 8), 1);
        Check.due("about(1)", x.about(1), 2);
        Check.due("weight(1, 0)", x.weight(1, 0), 8);
    }

    /** "BULBS 0 .. 11"; "or if there are 12". */
    private static void twelfthBulbIsTheLast() {
        BulbPapers x = withPersons(0);
        for (int bulb = 0; bulb < 11; bulb++) {
            x.bulb(0, 0, 50 + bulb);
        }
        Check.due("the twelfth", x.bulb(0, 0, 61), 11);
        for (int again = 0; again < 3; again++) {
            Check.due("a thirteenth", x.bulb(0, 0, 62), -1);
        }
        Check.due("about(1)", x.about(1), 12);
        for (int bulb = 0; bulb < 12; bulb++) {
            Check.due("weight(" + bulb + ", 0)", x.weight(bulb, 0), 50 + bulb);
        }
        Check.due("weight(12, 0)", x.weight(12, 0), -1);
    }

    /** A PLANTER is one of the PERSONS there are: the first, the last, one that came behind other bulbs. */
    private static void anyPersonPlants() {
        BulbPapers x = withPersons(0, 0, 0, 0, 0, 0, 0, 0, 0);
        Check.due("bulb of 0", x.bulb(0, 0, 1), 0);
        Check.due("bulb of 9, who is not there", x.bulb(9, 0, 1), -1);
        x.person(0);
        Check.due("bulb of 9, who is there", x.bulb(9, 0, 1), 1);
        Check.due("holds(9, 1)", x.holds(9, 1), 1);
        Check.due("holds(0, 1)", x.holds(0, 1), 0);
    }

    /** "NONE for others, in SPRING" */
    private static void monthSixIsTheLastToPlantIn() {
        BulbPapers x = withPersons(0);
        for (int month = 0; month < 7; month++) {
            Check.due("bulb in month " + month, x.bulb(0, 0, 100), month);
            x.month();
        }
        Check.due("bulb in spring", x.bulb(0, 0, 100), -1);
        Check.due("about(1)", x.about(1), 7);
    }

    /** "The clock goes on a MONTH: it. NONE in SPRING." */
    private static void clockStopsInSpring() {
        BulbPapers x = new BulbPapers();
        Check.due("about(3) at first", x.about(3), 0);
        for (int month = 1; month <= 7; month++) {
            Check.due("month()", x.month(), month);
            Check.due("about(3)", x.about(3), month);
        }
        for (int again = 0; again < 20; again++) {
            Check.due("month() in spring", x.month(), -1);
            Check.due("about(3) in spring", x.about(3), 7);
        }
    }

    /** "(from that in which it was planted to 7). NONE for others." */
    private static void weightFromThePlantingToSpring() {
        BulbPapers x = withPersons(0);
        for (int planted = 0; planted < 7; planted++) {
            x.bulb(0, 0, 1);
            for (int month = -1; month <= 8; month++) {
                int due = month >= planted && month <= 7 ? 1 : -1;
                Check.due("planted in " + planted + ": weight in " + month, x.weight(planted, month), due);
            }
            x.month();
        }
    }

    /** "WEIGHT in a MONTH not ahead of that": told for months to come, and for those gone by. */
    private static void weightDoesNotFollowTheClock() {
        BulbPapers x = withPersons(0);
        x.bulb(0, 0, 200);
        for (int clock = 0; clock <= 7; clock++) {
            weights("clock " + clock, x, 0, 200, 220, 242, 266, 292, 321, 353, 388);
            x.month();
        }
    }

    /** "MONTH by MONTH it is WEIGHT * (100 and GROWTH) / 100, cut." */
    private static void weightIsCutEachMonth() {
        BulbPapers x = withPersons(0);
        setGrowth(x, 1, 20);
        setGrowth(x, 2, 1);
        x.bulb(0, 0, 9);
        x.bulb(0, 0, 10);
        x.bulb(0, 1, 4);
        x.bulb(0, 1, 5);
        x.bulb(0, 2, 99);
        x.bulb(0, 2, 100);
        weights("9.9", x, 0, 9, 9, 9, 9, 9, 9, 9, 9);
        weights("11", x, 1, 10, 11, 12, 13, 14, 15, 16, 17);
        weights("4.8", x, 2, 4, 4, 4, 4, 4, 4, 4, 4);
        weights("6", x, 3, 5, 6, 7, 8, 9, 10, 12, 14);
        weights("99.99", x, 4, 99, 99, 99, 99, 99, 99, 99, 99);
        weights("101", x, 5, 100, 101, 102, 103, 104, 105, 106, 107);
    }

    /** "WEIGHT (1 .. 200)" with "0 .. 20 hundredths" */
    private static void leastAndGreatestWeights() {
        BulbPapers x = withPersons(0);
        setGrowth(x, 0, 0);
        setGrowth(x, 4, 20);
        x.bulb(0, 0, 1);
        x.bulb(0, 4, 1);
        x.bulb(0, 0, 200);
        x.bulb(0, 4, 200);
        weights("1 without growth", x, 0, 1, 1, 1, 1, 1, 1, 1, 1);
        weights("1 with most growth", x, 1, 1, 1, 1, 1, 1, 1, 1, 1);
        weights("200 without growth", x, 2, 200, 200, 200, 200, 200, 200, 200, 200);
        weights("200 with most growth", x, 3, 200, 240, 288, 345, 414, 496, 595, 714);
    }

    /** "GROWTH of the MONTH that goes by": of the planting's month first, of month 6 last, none ahead of it. */
    private static void growthOfTheMonthsThatGoBy() {
        BulbPapers x = withPersons(0);
        setGrowth(x, 0, 0);
        x.growth(0, 0, 20);
        x.growth(0, 2, 10);
        x.growth(0, 6, 5);
        x.bulb(0, 0, 100);
        x.month();
        x.bulb(0, 0, 100);
        x.month();
        x.bulb(0, 0, 100);
        x.month();
        x.bulb(0, 0, 100);
        weights("planted in 0", x, 0, 100, 120, 120, 132, 132, 132, 132, 138);
        weights("planted in 1", x, 1, -1, 100, 100, 110, 110, 110, 110, 115);
        weights("planted in 2", x, 2, -1, -1, 100, 110, 110, 110, 110, 115);
        weights("planted in 3", x, 3, -1, -1, -1, 100, 100, 100, 100, 105);
    }
}
