/** Promises 16 to 21: left, paid, all, fails, hurts, about. */
final class SpringTest {
    private static final int NO_LEFT = -2000000000;

    private SpringTest() {
    }

    public static void main(String[] args) {
        wrongCalls();
        fourWays();
        inTheOrderTold();
        ringWithoutCoins();
        ringThatLosesACoin();
        ringsThatShareAPerson();
        longRing();
        hurts();
        hurtsBelowTheWhole();
        about();
        Check.finish();
    }

    private static BulbPapers withPurses(int... purses) {
        return Debts.between(10, purses);
    }

    /** The buyer will owe the seller ten times the price. */
    private static void owe(BulbPapers x, int buyer, int seller, int price) {
        x.paper(seller, buyer, seller, price);
    }

    private static void wrongCalls() {
        BulbPapers x = withPurses(10, 20);
        owe(x, 0, 1, 1);
        int big = Integer.MAX_VALUE;
        int[][] wrong = {{0, -1, 0}, {0, 4, 0}, {0, 3, -1}, {0, 3, 101}, {-1, 0, 0}, {2, 1, 0},
            {big, 2, 0}, {Integer.MIN_VALUE, 3, 5}, {0, big, 5}, {0, Integer.MIN_VALUE, 5}, {0, 3, big}};
        for (int[] w : wrong) {
            String call = "(" + w[0] + ", " + w[1] + ", " + w[2] + ")";
            Check.due("left" + call, x.left(w[0], w[1], w[2]), NO_LEFT);
            Check.due("paid" + call, x.paid(w[0], w[1], w[2]), -1);
        }
        Check.due("paid(1, 1, 0)", x.paid(1, 1, 0), -1);
        Check.due("all(-1, 0)", x.all(-1, 0), -1);
        Check.due("all(4, 0)", x.all(4, 0), -1);
        Check.due("all(3, -1)", x.all(3, -1), -1);
        Check.due("all(3, 101)", x.all(3, 101), -1);
        Check.due("fails(-1)", x.fails(-1), -1);
        Check.due("fails(2)", x.fails(2), -1);
        Check.due("fails(greatest)", x.fails(big), -1);
        for (int way = 0; way < 3; way++) {
            Check.due("left, p does not count", x.left(1, way, -5), way == 0 ? 20 : 30);
            Check.due("paid, p does not count", x.paid(0, way, 101), way == 0 ? 0 : 10);
            Check.due("all, p does not count", x.all(way, big), way == 0 ? 0 : 10);
        }
    }

    private static void fourWays() {
        BulbPapers x = withPurses(25, 0, 7);
        owe(x, 0, 1, 3);
        owe(x, 1, 2, 4);
        Debts.lefts(x, 0, 0, 25, 0, 7);
        Debts.lefts(x, 1, 0, -5, -10, 47);
        Debts.lefts(x, 2, 0, 0, 0, 32);
        Debts.lefts(x, 3, 33, 16, -4, 20);
        Debts.lefts(x, 3, 0, 25, 0, 7);
        Debts.lefts(x, 3, 100, -5, -10, 47);
        Debts.paids(x, 2, 0, 25, 25);
        Debts.failing(x, 1, 1, 0);
        Check.due("all(0, 0)", x.all(0, 0), 0);
        Check.due("all(1, 0)", x.all(1, 0), 70);
        Check.due("all(3, 33)", x.all(3, 33), 9 + 13);
        Check.due("paid(0, 3, 33)", x.paid(0, 3, 33), 9);
        Check.due("paid(1, 3, 33)", x.paid(1, 3, 33), 13);
        Check.due("paid(1, 0, 0)", x.paid(1, 0, 0), 0);
        Check.due("paid(1, 1, 0)", x.paid(1, 1, 0), 40);
        x.person(100);
        Check.due("a new person has its purse left", x.left(3, 2, 0), 100);
    }

    private static void inTheOrderTold() {
        BulbPapers x = withPurses(45, 0, 0, 0);
        owe(x, 0, 3, 2);
        owe(x, 0, 1, 3);
        owe(x, 0, 2, 1);
        Debts.paids(x, 2, 0, 20, 25, 0);
        Debts.lefts(x, 2, 0, 0, 25, 0, 20);
        Debts.failing(x, 1, 0, 0, 0);
        BulbPapers y = withPurses(50, 0, 0, 0);
        owe(y, 0, 3, 2);
        owe(y, 0, 1, 3);
        Debts.paids(y, 2, 0, 20, 30);
        Debts.failing(y, 0, 0, 0, 0);
    }

    private static void ringWithoutCoins() {
        BulbPapers x = withPurses(0, 0, 0);
        owe(x, 0, 1, 5);
        owe(x, 1, 2, 5);
        owe(x, 2, 0, 5);
        Debts.paids(x, 2, 0, 50, 50, 50);
        Debts.failing(x, 0, 0, 0);
        Debts.lefts(x, 2, 0, 0, 0, 0);
        BulbPapers y = withPurses(0, 0, 0);
        owe(y, 0, 1, 5);
        owe(y, 1, 2, 3);
        owe(y, 2, 0, 4);
        Debts.paids(y, 2, 0, 30, 30, 30);
        Debts.failing(y, 1, 0, 1);
    }

    private static void ringThatLosesACoin() {
        // each time round 1 would give 10 to 2 first, so nothing can go round at all
        BulbPapers x = withPurses(0, 0, 0);
        owe(x, 1, 2, 1);
        owe(x, 0, 1, 5);
        owe(x, 1, 0, 5);
        Debts.paids(x, 2, 0, 0, 0, 0);
        Debts.failing(x, 1, 1, 0);
        BulbPapers y = withPurses(0, 0, 0);
        owe(y, 0, 1, 5);
        owe(y, 1, 0, 5);
        owe(y, 1, 2, 1);
        Debts.paids(y, 2, 0, 50, 50, 0);
        Debts.failing(y, 0, 1, 0);
    }

    private static void ringsThatShareAPerson() {
        BulbPapers x = withPurses(3, 0, 0, 0);
        owe(x, 0, 1, 5);
        owe(x, 0, 2, 5);
        owe(x, 1, 0, 5);
        owe(x, 2, 3, 1);
        owe(x, 2, 0, 5);
        Debts.paids(x, 2, 0, 50, 3, 50, 3, 0);
        Debts.lefts(x, 2, 0, 0, 0, 0, 3);
        Debts.failing(x, 1, 0, 1, 0);
    }

    /** Nine in a ring of the dearest papers; its first member owes one coin to the tenth ahead of it. */
    private static BulbPapers longRing(int firstPurse) {
        BulbPapers x = new BulbPapers();
        x.person(firstPurse);
        for (int person = 1; person < 10; person++) {
            x.person(0);
        }
        for (int month = 0; month < 7; month++) {
            x.growth(0, month, 20);
        }
        Text.house(x, "wine 0;");
        for (int person = 0; person < 9; person++) {
            x.bulb(person, 0, 200);
        }
        x.bulb(9, 0, 1);
        x.paper(9, 0, 9, 1);
        for (int person = 0; person < 9; person++) {
            int next = (person + 1) % 9;
            x.paper(next, person, next, 10);
        }
        return x;
    }

    private static void longRing() {
        BulbPapers x = longRing(1);
        int round = x.paperOf(1, 10);
        Check.due("owed in the ring", round, 7140);
        Check.due("owed beside the ring", x.paperOf(0, 10), 1);
        Debts.paids(x, 2, 0, 1, round, round, round, round, round, round, round, round, round);
        Debts.failing(x, 0, 0, 0, 0, 0, 0, 0, 0, 0, 0);
        BulbPapers y = longRing(0);
        Debts.paids(y, 2, 0, 0, 0, 0, 0, 0, 0, 0, 0, 0, 0);
        Debts.failing(y, 1, 1, 1, 1, 1, 1, 1, 1, 1, 0);
    }

    private static void hurts() {
        BulbPapers x = withPurses(9, 0);
        Check.due("hurts() without papers", x.hurts(), -1);
        owe(x, 0, 1, 1);
        Check.due("hurts() at the last", x.hurts(), 100);
        BulbPapers y = withPurses(10, 0);
        owe(y, 0, 1, 1);
        Check.due("hurts() nobody", y.hurts(), -1);
        BulbPapers z = withPurses(0, 0);
        owe(z, 0, 1, 10);
        Check.due("hurts() at once", z.hurts(), 1);
        owe(z, 1, 0, 10);
        Check.due("hurts() nobody in an even ring", z.hurts(), -1);
    }

    private static void hurtsBelowTheWhole() {
        // 0 owes 20 in one paper and gets 10 and 10 by two: they are cut where the one is not
        BulbPapers x = withPurses(0, 10, 10);
        owe(x, 0, 1, 2);
        owe(x, 1, 0, 1);
        owe(x, 2, 0, 1);
        Debts.lefts(x, 3, 100, 0, 20, 0);
        Check.due("left(0, 3, 5)", x.left(0, 3, 5), -1);
        Check.due("hurts() though the whole does not", x.hurts(), 5);
    }

    private static void about() {
        BulbPapers x = withPurses(100, 0, 5);
        x.month();
        owe(x, 1, 0, 1);
        Text.house(x, "wine 200;most 4;deposit 10;");
        owe(x, 0, 1, 10);
        Text.put(x, "wine");
        int[] due = {3, 3, 2, 1, 200, 4, 10, 4, 4, 0};
        for (int what = 0; what < due.length; what++) {
            Check.due("about(" + what + ")", x.about(what), due[what]);
        }
        owe(x, 2, 0, 1);
        Check.due("about(9)", x.about(9), 1);
        Check.due("about(10)", x.about(10), -1);
        Check.due("about(-1)", x.about(-1), -1);
        Check.due("about(least)", x.about(Integer.MIN_VALUE), -1);
        Check.due("about(greatest)", x.about(Integer.MAX_VALUE), -1);
    }
}
