/** The boundary sentences of promises 16 to 21: the ways of SPRING, who fails, whom a decree hurts. */
final class EdgesOfSpringTest {
    private static final int[] ODD_P = {Integer.MIN_VALUE, -101, -1, 0, 50, 100, 101, Integer.MAX_VALUE};

    private EdgesOfSpringTest() {
    }

    public static void main(String[] args) {
        withoutPapers();
        nobodyPays();
        allPayBelowNothing();
        onlyADecreeCountsItsP();
        decreeOfNothingAndOfAll();
        decreeIsCutPaperByPaper();
        decreeBelowNothing();
        justEnough();
        oneCoinShort();
        nothingAtAll();
        wholeThenPartThenNothing();
        inTheOrderToldAndNoOther();
        outOfWhatItGets();
        gettingJustEnough();
        gettingOneCoinTooFew();
        paperThatOwesNothing();
        ringOfTwo();
        ringWhoseLeastIsPaid();
        ringOfAllTen();
        ringAheadOfALaterDebt();
        ringBehindAnOlderDebt();
        ringThatLosesToAThird();
        neverBelowNothingAsFarAsTheyCan();
        greatestSums();
        reckonedByNow();
        askingChangesNothing();
        failsByOneCoin();
        owesNothingAndSoDoesNotFail();
        mostThatFail();
        hurtsAtEachP();
        nothingLeftHurtsNobody();
        hurtsAnyOfThePersons();
        aboutEmptyAndFull();
        Check.finish();
    }

    private static BulbPapers withPurses(int... purses) {
        return Debts.between(1, purses);
    }

    private static void owe(BulbPapers x, int buyer, int seller, int coins) {
        int paper = x.about(2);
        Check.due("paper(" + seller + ", " + buyer + ")", x.paper(seller, buyer, seller, coins), paper);
        Check.due("owed", x.paperOf(paper, 10), coins);
    }

    /** Without PAPERS each has its PURSE left by every WAY, and nobody FAILS. */
    private static void withoutPapers() {
        BulbPapers x = withPurses(0, 100000);
        for (int way = 0; way < 4; way++) {
            Debts.lefts(x, way, 100, 0, 100000);
            Debts.paids(x, way, 100);
        }
        Debts.failing(x, 0, 0);
        Check.due("hurts()", x.hurts(), -1);
    }

    /** "0 nobody pays" */
    private static void nobodyPays() {
        BulbPapers x = withPurses(100, 100);
        owe(x, 0, 1, 10);
        Debts.paids(x, 0, 0, 0);
        Debts.lefts(x, 0, 0, 100, 100);
    }

    /** "1 all pay what is OWED (PURSES may fall below 0)" */
    private static void allPayBelowNothing() {
        BulbPapers x = withPurses(4, 0, 5);
        owe(x, 0, 1, 5);
        owe(x, 2, 1, 5);
        Debts.paids(x, 1, 0, 5, 5);
        Debts.lefts(x, 1, 0, -1, 10, 0);
        Check.due("the PURSE itself stays", x.purse(0), 4);
    }

    /** "p of a DECREE, else it doesn't count" */
    private static void onlyADecreeCountsItsP() {
        BulbPapers x = withPurses(3, 0);
        owe(x, 0, 1, 8);
        for (int p : ODD_P) {
            Debts.paids(x, 0, p, 0);
            Debts.paids(x, 1, p, 8);
            Debts.paids(x, 2, p, 3);
            Debts.lefts(x, 0, p, 3, 0);
            Debts.lefts(x, 1, p, -5, 8);
            Debts.lefts(x, 2, p, 0, 3);
            boolean isDecree = p >= 0 && p <= 100;
            Check.due("left(0, 3, " + p + ")", x.left(0, 3, p), isDecree ? 3 - 8 * p / 100 : -2000000000);
            Check.due("paid(0, 3, " + p + ")", x.paid(0, 3, p), isDecree ? 8 * p / 100 : -1);
            Check.due("all(3, " + p + ")", x.all(3, p), isDecree ? 8 * p / 100 : -1);
        }
    }

    /** "a DECREE of p hundredths (0 .. 100)": by 0 nobody pays, by 100 all pay. */
    private static void decreeOfNothingAndOfAll() {
        BulbPapers x = withPurses(4, 0, 9);
        owe(x, 0, 1, 7);
        owe(x, 1, 2, 10);
        Debts.paids(x, 3, 0, 0, 0);
        Debts.lefts(x, 3, 0, 4, 0, 9);
        Debts.paids(x, 3, 100, 7, 10);
        Debts.lefts(x, 3, 100, -3, -3, 19);
        Debts.paids(x, 3, 99, 6, 9);
        Debts.lefts(x, 3, 99, -2, -3, 18);
        Debts.paids(x, 3, 1, 0, 0);
    }

    /** "of each PAPER OWED * p / 100, cut, is paid" */
    private static void decreeIsCutPaperByPaper() {
        BulbPapers x = withPurses(9, 0);
        owe(x, 0, 1, 3);
        owe(x, 0, 1, 3);
        owe(x, 0, 1, 3);
        Debts.paids(x, 3, 33, 0, 0, 0);
        Debts.paids(x, 3, 34, 1, 1, 1);
        Debts.paids(x, 3, 66, 1, 1, 1);
        Debts.paids(x, 3, 67, 2, 2, 2);
        BulbPapers y = withPurses(0, 0);
        owe(y, 0, 1, 10);
        for (int p = 0; p <= 100; p++) {
            Debts.paids(y, 3, p, p / 10);
        }
    }

    /** "(PURSES may fall below 0)" by a DECREE too. */
    private static void decreeBelowNothing() {
        BulbPapers x = withPurses(0, 0);
        owe(x, 0, 1, 10);
        Debts.lefts(x, 3, 9, 0, 0);
        Debts.lefts(x, 3, 10, -1, 1);
        Debts.lefts(x, 3, 50, -5, 5);
    }

    /** "each whole as long as it can": with just enough for all of them. */
    private static void justEnough() {
        BulbPapers x = withPurses(15, 0, 0);
        owe(x, 0, 1, 7);
        owe(x, 0, 2, 8);
        Debts.paids(x, 2, 0, 7, 8);
        Debts.lefts(x, 2, 0, 0, 7, 8);
        Debts.failing(x, 0, 0, 0);
    }

    /** "of the next one what is left": one coin less than enough. */
    private static void oneCoinShort() {
        BulbPapers x = withPurses(14, 0, 0);
        owe(x, 0, 1, 7);
        owe(x, 0, 2, 8);
        Debts.paids(x, 2, 0, 7, 7);
        Debts.lefts(x, 2, 0, 0, 7, 7);
        Debts.failing(x, 1, 0, 0);
    }

    /** An empty PURSE that gets nothing pays nothing. */
    private static void nothingAtAll() {
        BulbPapers x = withPurses(0, 0);
        owe(x, 0, 1, 1);
        owe(x, 0, 1, 1);
        Debts.paids(x, 2, 0, 0, 0);
        Debts.lefts(x, 2, 0, 0, 0);
        Debts.failing(x, 1, 0);
    }

    /** "each whole as long as it can, of the next one what is left, of others nothing" */
    private static void wholeThenPartThenNothing() {
        for (int purse = 0; purse <= 17; purse++) {
            BulbPapers x = withPurses(purse, 0);
            owe(x, 0, 1, 5);
            owe(x, 0, 1, 1);
            owe(x, 0, 1, 9);
            owe(x, 0, 1, 1);
            int first = Math.min(purse, 5);
            int second = Math.min(purse - first, 1);
            int third = Math.min(purse - first - second, 9);
            int fourth = Math.min(purse - first - second - third, 1);
            Debts.paids(x, 2, 0, first, second, third, fourth);
            Debts.lefts(x, 2, 0, Math.max(0, purse - 16), Math.min(purse, 16));
            Debts.failing(x, purse < 16 ? 1 : 0, 0);
        }
    }

    /** "in the order they were told": not by size, not by seller, not with others' papers in between. */
    private static void inTheOrderToldAndNoOther() {
        BulbPapers x = withPurses(9, 9, 0, 0);
        owe(x, 0, 3, 8);
        owe(x, 1, 2, 3);
        owe(x, 0, 2, 2);
        owe(x, 1, 3, 7);
        owe(x, 0, 3, 1);
        owe(x, 1, 2, 1);
        Debts.paids(x, 2, 0, 8, 3, 1, 6, 0, 0);
        Debts.lefts(x, 2, 0, 0, 0, 4, 14);
        Debts.failing(x, 1, 1, 0, 0);
    }

    /** "out of its PURSE and what it gets by this WAY" */
    private static void outOfWhatItGets() {
        BulbPapers x = withPurses(2, 1, 0, 0);
        owe(x, 2, 3, 9);
        owe(x, 1, 2, 9);
        owe(x, 0, 1, 9);
        Debts.paids(x, 2, 0, 3, 3, 2);
        Debts.lefts(x, 2, 0, 0, 0, 0, 3);
        Debts.failing(x, 1, 1, 1, 0);
    }

    /** It gets by the WAY just what it lacks. */
    private static void gettingJustEnough() {
        BulbPapers x = withPurses(6, 4, 0);
        owe(x, 1, 2, 10);
        owe(x, 0, 1, 6);
        Debts.paids(x, 2, 0, 10, 6);
        Debts.lefts(x, 2, 0, 0, 0, 10);
        Debts.failing(x, 0, 0, 0);
    }

    /** What it gets by the WAY is one coin too few, though all that is OWED to it would be enough. */
    private static void gettingOneCoinTooFew() {
        BulbPapers x = withPurses(5, 4, 0);
        owe(x, 1, 2, 10);
        owe(x, 0, 1, 6);
        Debts.paids(x, 2, 0, 9, 5);
        Debts.lefts(x, 2, 0, 0, 0, 9);
        Debts.failing(x, 1, 1, 0);
    }

    /** "OWED: 0 at least": a PAPER of which nothing is OWED is paid whole by nothing. */
    private static void paperThatOwesNothing() {
        BulbPapers x = withPurses(10, 0);
        Text.house(x, "wine 0;deposit 100;");
        Check.due("a paper that owes nothing", x.paper(1, 0, 1, 6), 0);
        Check.due("owed", x.paperOf(0, 10), 0);
        for (int way = 0; way < 4; way++) {
            Debts.paids(x, way, 100, 0);
            Debts.lefts(x, way, 100, 4, 6);
        }
        Debts.failing(x, 0, 0);
        Check.due("hurts()", x.hurts(), -1);
        Text.house(x, "wine 0;");
        owe(x, 0, 1, 5);
        Text.house(x, "wine 0;deposit 100;");
        Check.due("another that owes nothing", x.paper(1, 0, 1, 1), 2);
        Debts.paids(x, 2, 0, 0, 3, 0);
        Debts.failing(x, 1, 0);
    }

    /** "of all ways to do so the one in which most is paid": two without a coin pay one another whole. */
    private static void ringOfTwo() {
        BulbPapers x = withPurses(0, 0);
        owe(x, 0, 1, 10);
        Debts.failing(x, 1, 0);
        owe(x, 1, 0, 10);
        Debts.paids(x, 2, 0, 10, 10);
        Debts.lefts(x, 2, 0, 0, 0);
        Debts.failing(x, 0, 0);
        BulbPapers y = withPurses(0, 0);
        owe(y, 0, 1, 10);
        owe(y, 1, 0, 9);
        Debts.paids(y, 2, 0, 9, 9);
        Debts.failing(y, 1, 0);
    }

    /** In a ring without coins what goes round is its least PAPER, wherever that stands. */
    private static void ringWhoseLeastIsPaid() {
        for (int least = 0; least < 5; least++) {
            BulbPapers x = withPurses(0, 0, 0, 0, 0);
            int[] fails = {1, 1, 1, 1, 1};
            fails[least] = 0;
            for (int person = 0; person < 5; person++) {
                owe(x, person, (person + 1) % 5, person == least ? 4 : 6 + person % 2);
            }
            Debts.paids(x, 2, 0, 4, 4, 4, 4, 4);
            Debts.lefts(x, 2, 0, 0, 0, 0, 0, 0);
            Debts.failing(x, fails);
        }
    }

    /** All ten PERSONS in one ring, in several orders. */
    private static void ringOfAllTen() {
        for (int step : new int[] {1, 3, 7, 9}) {
            BulbPapers x = withPurses(0, 0, 0, 0, 0, 0, 0, 0, 0, 0);
            for (int person = 0; person < 10; person++) {
                owe(x, person, (person + step) % 10, person == 3 ? 7 : 8);
            }
            Debts.paids(x, 2, 0, 7, 7, 7, 7, 7, 7, 7, 7, 7, 7);
            Debts.failing(x, 1, 1, 1, 0, 1, 1, 1, 1, 1, 1);
        }
    }

    /** The ring's PAPER comes first, so what a third one is OWED takes nothing from it. */
    private static void ringAheadOfALaterDebt() {
        for (int purse = 0; purse <= 3; purse++) {
            BulbPapers x = withPurses(purse, 0, 0);
            owe(x, 0, 1, 5);
            owe(x, 1, 0, 5);
            owe(x, 0, 2, 2);
            Debts.paids(x, 2, 0, 5, 5, Math.min(purse, 2));
            Debts.failing(x, purse < 2 ? 1 : 0, 0, 0);
        }
    }

    /** A third one's PAPER comes first: with one coin too few for it nothing can go round. */
    private static void ringBehindAnOlderDebt() {
        for (int purse = 0; purse <= 3; purse++) {
            BulbPapers x = withPurses(purse, 0, 0);
            owe(x, 0, 2, 2);
            owe(x, 0, 1, 5);
            owe(x, 1, 0, 5);
            boolean isEnough = purse >= 2;
            Debts.paids(x, 2, 0, isEnough ? 2 : purse, isEnough ? 5 : 0, isEnough ? 5 : 0);
            Debts.lefts(x, 2, 0, isEnough ? purse - 2 : 0, 0, isEnough ? 2 : purse);
            Debts.failing(x, isEnough ? 0 : 1, isEnough ? 0 : 1, 0);
        }
    }

    /** Members of a ring of three each OWE an outer one ahead of it: the coins they have decide. */
    private static void ringThatLosesToAThird() {
        for (int purse = 0; purse <= 3; purse++) {
            BulbPapers x = withPurses(purse, 0, 0, 0);
            owe(x, 0, 3, 1);
            owe(x, 1, 3, 1);
            owe(x, 2, 3, 1);
            owe(x, 0, 1, 9);
            owe(x, 1, 2, 9);
            owe(x, 2, 0, 9);
            if (purse < 3) {
                Debts.paids(x, 2, 0, Math.min(purse, 1), Math.max(purse - 1, 0), 0, Math.max(purse - 1, 0), 0, 0);
                Debts.failing(x, 1, 1, 1, 0);
            } else {
                // three coins go out, and the first has them: what it gives the second is not more than 9
                Debts.paids(x, 2, 0, 1, 1, 1, 9, 8, 7);
                Debts.failing(x, 0, 1, 1, 0);
            }
        }
    }

    /** "as far as they can": nobody's LEFT is below 0 by that WAY. */
    private static void neverBelowNothingAsFarAsTheyCan() {
        BulbPapers x = new BulbPapers();
        Worlds.full(x);
        BulbPapers y = new BulbPapers();
        Worlds.inUse(y);
        for (int person = 0; person < 10; person++) {
            Check.due("full: left(" + person + ", 2, 0) >= 0", x.left(person, 2, 0) >= 0, true);
            Check.due("in use: left(" + person + ", 2, 0) >= 0", y.left(person, 2, 0) >= 0, person < 3);
        }
    }

    /** Forty of the greatest PAPERS between two PERSONS. */
    private static void greatestSums() {
        BulbPapers x = new BulbPapers();
        x.person(100000);
        x.person(0);
        for (int month = 0; month < 7; month++) {
            x.growth(0, month, 20);
        }
        Text.house(x, "wine 0;");
        x.bulb(0, 0, 200);
        for (int paper = 0; paper < 40; paper++) {
            x.paper(0, 1, 0, 10);
        }
        int[] all = {0, 285600, 0, 285600};
        for (int way = 0; way < 4; way++) {
            Check.due("all(" + way + ", 100)", x.all(way, 100), all[way]);
            Debts.lefts(x, way, 100, 100000 + all[way], -all[way]);
        }
        Check.due("all(3, 99)", x.all(3, 99), 7068 * 40);
        Check.due("all(3, 1)", x.all(3, 1), 71 * 40);
        Check.due("hurts()", x.hurts(), 1);
        Debts.failing(x, 0, 1);
    }

    /** "reckoned by PURSES and PAPERS of now" */
    private static void reckonedByNow() {
        BulbPapers x = withPurses(5, 0);
        owe(x, 0, 1, 9);
        Debts.paids(x, 2, 0, 5);
        Debts.failing(x, 1, 0);
        x.month();
        Text.house(x, "wine 200;most 100;deposit 20;");
        x.person(50);
        Debts.paids(x, 2, 0, 5);
        Debts.lefts(x, 2, 0, 0, 5, 50);
        Debts.failing(x, 1, 0, 0);
        Check.due("a paper with a deposit", x.paper(0, 2, 0, 10), 1);
        Check.due("purse(0)", x.purse(0), 7);
        Check.due("purse(2)", x.purse(2), 46);
        Debts.paids(x, 1, 0, 9, 8);
        Debts.paids(x, 2, 0, 9, 8);
        Debts.lefts(x, 2, 0, 6, 9, 38);
        Debts.failing(x, 0, 0, 0);
    }

    /** The WAYS are reckoned, not gone: whatever is asked, PURSES and PAPERS stay. */
    private static void askingChangesNothing() {
        Looks.alike("asked for all ways", x -> {
            Worlds.inUse(x);
            for (int way = 0; way < 4; way++) {
                x.left(0, way, 100);
                x.paid(0, way, 100);
                x.all(way, 100);
            }
            x.fails(0);
            x.hurts();
            x.doubles();
        }, Worlds::inUse);
    }

    /** "FAILS: a PERSON that by AS FAR AS THEY CAN pays less than it OWES." */
    private static void failsByOneCoin() {
        for (int purse = 0; purse <= 11; purse++) {
            BulbPapers x = withPurses(purse, 0);
            owe(x, 0, 1, 10);
            Debts.failing(x, purse < 10 ? 1 : 0, 0);
        }
    }

    /** One that OWES nothing doesn't FAIL, though it gets less than it is OWED. */
    private static void owesNothingAndSoDoesNotFail() {
        BulbPapers x = withPurses(0, 0, 0);
        owe(x, 0, 1, 10);
        Debts.failing(x, 1, 0, 0);
        Check.due("left(1, 2, 0)", x.left(1, 2, 0), 0);
    }

    /** "how many FAIL": at most nine of ten, since in a ring of those that all fail more could be paid. */
    private static void mostThatFail() {
        BulbPapers x = withPurses(0, 0, 0, 0, 0, 0, 0, 0, 0, 0);
        for (int person = 1; person < 10; person++) {
            owe(x, person, 0, 1);
            Check.due("about(9)", x.about(9), person);
        }
        Debts.failing(x, 0, 1, 1, 1, 1, 1, 1, 1, 1, 1);
        owe(x, 0, 9, 1);
        Debts.paids(x, 2, 0, 0, 0, 0, 0, 0, 0, 0, 0, 1, 1);
        Debts.failing(x, 0, 1, 1, 1, 1, 1, 1, 1, 1, 0);
    }

    /** "The least p (0 .. 100) of a DECREE by which somebody's LEFT is below 0": each of 1 .. 100. */
    private static void hurtsAtEachP() {
        for (int purse = 0; purse <= 101; purse++) {
            BulbPapers x = withPurses(purse, 0);
            x.bulb(1, 0, 10);
            Check.due("a paper of 100", x.paper(1, 0, 2, 10), 0);
            Check.due("hurts() with " + purse, x.hurts(), purse < 100 ? purse + 1 : -1);
        }
    }

    /** "below 0": a LEFT of 0 is not. */
    private static void nothingLeftHurtsNobody() {
        BulbPapers x = withPurses(3, 0);
        owe(x, 0, 1, 3);
        Check.due("left(0, 3, 100)", x.left(0, 3, 100), 0);
        Check.due("hurts()", x.hurts(), -1);
    }

    /** "somebody's": the first of ten, the last, any. */
    private static void hurtsAnyOfThePersons() {
        for (int poor = 0; poor < 10; poor++) {
            int[] purses = {9, 9, 9, 9, 9, 9, 9, 9, 9, 9};
            purses[poor] = 4;
            BulbPapers x = withPurses(purses);
            for (int person = 0; person < 10; person++) {
                owe(x, person, person == 5 ? 6 : 5, person == 5 ? 9 : 8);
            }
            int due = poor == 5 ? -1 : poor == 6 ? -1 : 63;
            Check.due("hurts() with " + poor + " the poor one", x.hurts(), due);
        }
    }

    /** The counts that about tells: of an empty object, and of one in which each is as high as it can be. */
    private static void aboutEmptyAndFull() {
        BulbPapers x = new BulbPapers();
        int[] empty = {0, 0, 0, 0, 25, 3, 0, 0, 0, 0};
        for (int what = 0; what < empty.length; what++) {
            Check.due("empty about(" + what + ")", x.about(what), empty[what]);
        }
        x.person(0);
        for (int person = 1; person < 10; person++) {
            x.person(person == 1 ? 100000 : 0);
        }
        Text.house(x, "wine 200;most 100;");
        for (int bulb = 0; bulb < 12; bulb++) {
            x.bulb(0, 0, 200);
        }
        for (int paper = 0; paper < 40; paper++) {
            x.paper(0, 1, paper % 12, 3);
        }
        for (int month = 0; month < 7; month++) {
            x.month();
        }
        Text.house(x, "wine 200;most 100;deposit 100;");
        Text.put(x, " ".repeat(120));
        int[] full = {10, 12, 40, 7, 200, 100, 100, 4000, 120, 0};
        for (int what = 0; what < full.length; what++) {
            Check.due("full about(" + what + ")", x.about(what), full[what]);
        }
    }
}
