/** Promises 11 to 14: paper, paperOf, holds, doubles; and purses as papers are told. */
final class PapersTest {
    private PapersTest() {
    }

    public static void main(String[] args) {
        wrongPapers();
        factsOfPapers();
        wineAndDeposit();
        buyerMustHaveBoth();
        manyPapers();
        chains();
        planterBuysBack();
        holdings();
        papersInSpring();
        Check.finish();
    }

    private static BulbPapers three() {
        BulbPapers x = new BulbPapers();
        x.person(1000);
        x.person(1000);
        x.person(1000);
        x.bulb(0, 0, 100);
        x.bulb(1, 1, 50);
        return x;
    }

    private static void wrongPapers() {
        BulbPapers x = three();
        int big = Integer.MAX_VALUE;
        int[][] wrong = {{-1, 1, 0, 1}, {3, 1, 0, 1}, {0, -1, 0, 1}, {0, 3, 0, 1}, {0, 0, 0, 1},
            {0, 1, -1, 1}, {0, 1, 2, 1}, {0, 1, 0, 0}, {0, 1, 0, 11}, {0, 1, 0, -1}, {1, 0, 0, 1},
            {2, 0, 0, 1}, {0, 1, 1, 1}, {big, 1, 0, 1}, {0, big, 0, 1}, {0, 1, big, 1}, {0, 1, 0, big},
            {Integer.MIN_VALUE, 1, 0, 1}};
        for (int[] w : wrong) {
            String call = "paper(" + w[0] + ", " + w[1] + ", " + w[2] + ", " + w[3] + ")";
            Check.due(call, x.paper(w[0], w[1], w[2], w[3]), -1);
        }
        Check.due("about(2)", x.about(2), 0);
        Check.due("about(7)", x.about(7), 0);
        for (int person = 0; person < 3; person++) {
            Check.due("purse(" + person + ")", x.purse(person), 1000);
        }
        Check.due("price 1", x.paper(0, 1, 0, 1), 0);
        Check.due("price 10", x.paper(0, 1, 0, 10), 1);
    }

    private static void factsOfPapers() {
        BulbPapers x = three();
        Text.house(x, "wine 20; most 100; deposit 10;");
        x.month();
        x.month();
        Check.due("paper", x.paper(0, 1, 0, 7), 0);
        // 100 110 121 133 146 160 176 193
        int[] due = {0, 1, 0, 7, 1351, 84, 16, 2, -1, 1, 1267};
        for (int what = 0; what < due.length; what++) {
            Check.due("paperOf(0, " + what + ")", x.paperOf(0, what), due[what]);
        }
        Check.due("paperOf(0, 11)", x.paperOf(0, 11), -1);
        Check.due("paperOf(0, -1)", x.paperOf(0, -1), -1);
        Check.due("paperOf(1, 0)", x.paperOf(1, 0), -1);
        Check.due("paperOf(-1, 0)", x.paperOf(-1, 0), -1);
        Check.due("paperOf(greatest, 0)", x.paperOf(Integer.MAX_VALUE, 0), -1);
        Check.due("paperOf(0, greatest)", x.paperOf(0, Integer.MAX_VALUE), -1);
        Check.due("purse(0)", x.purse(0), 1084);
        Check.due("purse(1)", x.purse(1), 900);
        Check.due("about(7)", x.about(7), 16);
        x.house();
        Check.due("about(7) with another house", x.about(7), 16);
        Check.due("a later house changes no paper", x.paperOf(0, 5), 84);
    }

    private static void wineAndDeposit() {
        BulbPapers x = three();
        x.paper(0, 1, 0, 1);
        Check.due("wine 100 * 25 / 1000, cut", x.paperOf(0, 6), 2);
        x.paper(0, 1, 0, 2);
        Check.due("wine 3 at most", x.paperOf(1, 6), 3);
        Check.due("no deposit", x.paperOf(1, 5), 0);
        Text.house(x, "deposit 100;wine 200;most 0;");
        x.paper(0, 1, 0, 3);
        Check.due("wine 0 at most", x.paperOf(2, 6), 0);
        Check.due("all of it a deposit", x.paperOf(2, 5), 300);
        Check.due("owed", x.paperOf(2, 10), 3 * 193 - 300);
        Text.house(x, "deposit 33;");
        x.paper(1, 2, 1, 1);
        Check.due("deposit 50 * 33 / 100, cut", x.paperOf(3, 5), 16);
        Check.due("about(7)", x.about(7), 2 + 3 + 0 + 1);
        BulbPapers y = three();
        for (int month = 0; month < 7; month++) {
            y.month();
        }
        Text.house(y, "deposit 100;");
        y.paper(0, 1, 0, 1);
        Check.due("a deposit of all that is due", y.paperOf(0, 5), 193);
        Check.due("nothing is owed", y.paperOf(0, 10), 0);
        Check.due("nothing is paid", y.paid(0, 1, 0), 0);
        Check.due("nobody fails", y.about(9), 0);
    }

    private static void buyerMustHaveBoth() {
        BulbPapers x = new BulbPapers();
        x.person(0);
        x.person(24);
        x.person(25);
        x.bulb(0, 0, 100);
        Text.house(x, "wine 50; most 100; deposit 20;");
        Check.due("one coin too few", x.paper(0, 1, 0, 1), -1);
        Check.due("purse(1)", x.purse(1), 24);
        Check.due("purse(0)", x.purse(0), 0);
        Check.due("about(7)", x.about(7), 0);
        Check.due("just enough", x.paper(0, 2, 0, 1), 0);
        Check.due("purse(2)", x.purse(2), 0);
        Check.due("purse(0)", x.purse(0), 20);
        Check.due("about(7)", x.about(7), 5);
        Check.due("paper(0, 2) without coins", x.paper(0, 2, 0, 1), -1);
        Check.due("holds(2, 0)", x.holds(2, 0), 1);
    }

    private static void manyPapers() {
        BulbPapers x = new BulbPapers();
        x.person(100000);
        x.person(100000);
        x.bulb(0, 0, 1);
        for (int paper = 0; paper < 40; paper++) {
            Check.due("paper " + paper, x.paper(paper % 2, 1 - paper % 2, 0, 1), paper);
            Check.due("chain of " + paper, x.paperOf(paper, 9), paper + 1);
        }
        Check.due("a 41st", x.paper(0, 1, 0, 1), -1);
        Check.due("about(2)", x.about(2), 40);
        Check.due("paperOf(39, 8)", x.paperOf(39, 8), 38);
        Check.due("paperOf(40, 0)", x.paperOf(40, 0), -1);
    }

    private static void chains() {
        BulbPapers x = three();
        x.paper(0, 2, 0, 1);
        x.paper(1, 2, 1, 1);
        x.paper(0, 1, 0, 1);
        x.paper(1, 2, 0, 1);
        x.paper(2, 0, 1, 1);
        x.paper(2, 1, 0, 1);
        x.paper(1, 0, 1, 1);
        int[] from = {-1, -1, -1, 2, 1, 3, -1};
        int[] chain = {1, 1, 1, 2, 2, 3, 1};
        for (int paper = 0; paper < from.length; paper++) {
            Check.due("paperOf(" + paper + ", 8)", x.paperOf(paper, 8), from[paper]);
            Check.due("paperOf(" + paper + ", 9)", x.paperOf(paper, 9), chain[paper]);
        }
        Check.due("holds(1, 1)", x.holds(1, 1), -1);
        Check.due("doubles()", x.doubles(), 2);
    }

    private static void planterBuysBack() {
        BulbPapers x = three();
        x.paper(0, 1, 0, 1);
        x.paper(1, 0, 0, 1);
        x.paper(0, 2, 0, 1);
        Check.due("the planter's own first", x.paperOf(0, 8), -1);
        Check.due("behind the buying back", x.paperOf(2, 8), 1);
        Check.due("its chain", x.paperOf(2, 9), 3);
        Check.due("holds(0, 0)", x.holds(0, 0), 0);
    }

    private static void holdings() {
        BulbPapers x = three();
        Check.due("holds(0, 0)", x.holds(0, 0), 1);
        Check.due("holds(1, 0)", x.holds(1, 0), 0);
        Check.due("holds(1, 1)", x.holds(1, 1), 1);
        Check.due("holds(3, 0)", x.holds(3, 0), -1000);
        Check.due("holds(-1, 0)", x.holds(-1, 0), -1000);
        Check.due("holds(0, 2)", x.holds(0, 2), -1000);
        Check.due("holds(0, -1)", x.holds(0, -1), -1000);
        Check.due("holds(least, greatest)", x.holds(Integer.MIN_VALUE, Integer.MAX_VALUE), -1000);
        for (int times = 1; times <= 5; times++) {
            x.paper(0, 1, 0, 1);
            Check.due("holds(0, 0) behind " + times, x.holds(0, 0), 1 - times);
            Check.due("holds(1, 0) behind " + times, x.holds(1, 0), times);
            Check.due("doubles() behind " + times, x.doubles(), times > 1 ? 1 : 0);
        }
        x.paper(1, 2, 1, 1);
        x.paper(1, 2, 1, 1);
        Check.due("doubles() of two persons", x.doubles(), 2);
        x.paper(2, 1, 1, 1);
        Check.due("doubles() behind a buying back", x.doubles(), 1);
    }

    private static void papersInSpring() {
        BulbPapers x = three();
        for (int month = 0; month < 7; month++) {
            x.month();
        }
        Check.due("paper in spring", x.paper(0, 1, 0, 2), 0);
        Check.due("its month", x.paperOf(0, 7), 7);
        Check.due("its due", x.paperOf(0, 4), 386);
        Check.due("its wine", x.paperOf(0, 6), 3);
    }
}
