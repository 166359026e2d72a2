/** Promises 3 to 6: growth, bulb, month, weight. */
final class GardenTest {
    private GardenTest() {
    }

    public static void main(String[] args) {
        growth();
        growthBehindBulbs();
        bulbs();
        manyBulbs();
        months();
        weights();
        growthOfEachMonthAndSort();
        Check.finish();
    }

    private static void growth() {
        BulbPapers x = new BulbPapers();
        int[][] wrong = {{-1, 0, 5}, {5, 0, 5}, {0, -1, 5}, {0, 7, 5}, {0, 0, -1}, {0, 0, 21},
            {Integer.MIN_VALUE, 0, 5}, {Integer.MAX_VALUE, 0, 5}, {0, Integer.MAX_VALUE, 5},
            {0, Integer.MIN_VALUE, 5}, {0, 0, Integer.MAX_VALUE}};
        for (int[] w : wrong) {
            Check.due("growth(" + w[0] + ", " + w[1] + ", " + w[2] + ")", x.growth(w[0], w[1], w[2]), false);
        }
        Check.due("growth(0, 0, 0)", x.growth(0, 0, 0), true);
        Check.due("growth(4, 6, 20)", x.growth(4, 6, 20), true);
        Check.due("growth(4, 6, 19)", x.growth(4, 6, 19), true);
    }

    private static void growthBehindBulbs() {
        BulbPapers x = new BulbPapers();
        x.person(1);
        Check.due("growth with a person", x.growth(1, 1, 1), true);
        x.bulb(0, 1, 100);
        Check.due("growth with a bulb", x.growth(1, 1, 5), false);
        Check.due("growth with a bulb of another sort", x.growth(2, 1, 5), false);
        Check.due("weight(0, 2)", x.weight(0, 2), 111);
    }

    private static void bulbs() {
        BulbPapers x = new BulbPapers();
        Check.due("bulb without persons", x.bulb(0, 0, 1), -1);
        x.person(1);
        int[][] wrong = {{-1, 0, 5}, {1, 0, 5}, {0, -1, 5}, {0, 5, 5}, {0, 0, 0}, {0, 0, 201},
            {0, 0, -1}, {Integer.MIN_VALUE, 0, 5}, {0, Integer.MAX_VALUE, 5}, {0, 0, Integer.MAX_VALUE}};
        for (int[] w : wrong) {
            Check.due("bulb(" + w[0] + ", " + w[1] + ", " + w[2] + ")", x.bulb(w[0], w[1], w[2]), -1);
        }
        Check.due("about(1)", x.about(1), 0);
        Check.due("bulb(0, 0, 1)", x.bulb(0, 0, 1), 0);
        Check.due("bulb(0, 4, 200)", x.bulb(0, 4, 200), 1);
        Check.due("about(1)", x.about(1), 2);
    }

    private static void manyBulbs() {
        BulbPapers x = new BulbPapers();
        x.person(1);
        for (int i = 0; i < 12; i++) {
            Check.due("bulb " + i, x.bulb(0, i % 5, i + 1), i);
        }
        Check.due("a thirteenth", x.bulb(0, 0, 1), -1);
        Check.due("about(1)", x.about(1), 12);
        Check.due("weight(11, 0)", x.weight(11, 0), 12);
    }

    private static void months() {
        BulbPapers x = new BulbPapers();
        x.person(1);
        for (int month = 1; month <= 6; month++) {
            Check.due("month()", x.month(), month);
            Check.due("about(3)", x.about(3), month);
        }
        Check.due("bulb in month 6", x.bulb(0, 0, 10), 0);
        Check.due("month()", x.month(), 7);
        Check.due("bulb in spring", x.bulb(0, 0, 10), -1);
        Check.due("month() in spring", x.month(), -1);
        Check.due("about(3)", x.about(3), 7);
        Check.due("weight(0, 5)", x.weight(0, 5), -1);
        Check.due("weight(0, 6)", x.weight(0, 6), 10);
        Check.due("weight(0, 7)", x.weight(0, 7), 11);
    }

    private static void weights() {
        BulbPapers x = new BulbPapers();
        x.person(1);
        x.month();
        x.month();
        x.bulb(0, 0, 19);
        int[] due = {-1, -1, 19, 20, 22, 24, 26, 28};
        for (int month = 0; month < due.length; month++) {
            Check.due("weight(0, " + month + ")", x.weight(0, month), due[month]);
        }
        Check.due("weight(0, 8)", x.weight(0, 8), -1);
        Check.due("weight(0, -1)", x.weight(0, -1), -1);
        Check.due("weight(0, least)", x.weight(0, Integer.MIN_VALUE), -1);
        Check.due("weight(0, greatest)", x.weight(0, Integer.MAX_VALUE), -1);
        Check.due("weight(1, 7)", x.weight(1, 7), -1);
        Check.due("weight(-1, 7)", x.weight(-1, 7), -1);
        Check.due("weight(greatest, 7)", x.weight(Integer.MAX_VALUE, 7), -1);
    }

    private static void growthOfEachMonthAndSort() {
        BulbPapers x = new BulbPapers();
        x.person(1);
        for (int sort = 0; sort < 5; sort++) {
            for (int month = 0; month < 7; month++) {
                x.growth(sort, month, (sort * 7 + month) % 21);
            }
        }
        for (int sort = 0; sort < 5; sort++) {
            x.bulb(0, sort, 200);
        }
        for (int sort = 0; sort < 5; sort++) {
            int weight = 200;
            for (int month = 0; month < 7; month++) {
                weight = weight * (100 + (sort * 7 + month) % 21) / 100;
                Check.due("weight(" + sort + ", " + (month + 1) + ")", x.weight(sort, month + 1), weight);
            }
        }
    }
}
