/** Persons that owe one another, and what is due of them by the ways of SPRING. */
final class Debts {
    private Debts() {
    }

    /** Persons with these purses, each with a bulb of this weight that never grows, and no wine. */
    static BulbPapers between(int weight, int... purses) {
        BulbPapers x = new BulbPapers();
        for (int purse : purses) {
            x.person(purse);
        }
        for (int month = 0; month < 7; month++) {
            x.growth(0, month, 0);
        }
        Text.house(x, "wine 0;");
        for (int person = 0; person < purses.length; person++) {
            x.bulb(person, 0, weight);
        }
        return x;
    }

    static void paids(BulbPapers x, int way, int p, int... due) {
        int sum = 0;
        for (int paper = 0; paper < due.length; paper++) {
            Check.due("paid(" + paper + ", " + way + ", " + p + ")", x.paid(paper, way, p), due[paper]);
            sum += due[paper];
        }
        Check.due("all(" + way + ", " + p + ")", x.all(way, p), sum);
    }

    static void lefts(BulbPapers x, int way, int p, int... due) {
        for (int person = 0; person < due.length; person++) {
            Check.due("left(" + person + ", " + way + ", " + p + ")", x.left(person, way, p), due[person]);
        }
    }

    static void failing(BulbPapers x, int... due) {
        int sum = 0;
        for (int person = 0; person < due.length; person++) {
            Check.due("fails(" + person + ")", x.fails(person), due[person]);
            sum += due[person];
        }
        Check.due("about(9)", x.about(9), sum);
    }
}
