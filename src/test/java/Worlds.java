/** Objects to begin with, each made by fewer than 150 calls. */
final class Worlds {
    private Worlds() {
    }

    static void empty(BulbPapers x) {
        Check.due("a new object", x.about(0), 0);
    }

    /** Persons, and growths that are all different within a sort, but nothing planted. */
    static void unplanted(BulbPapers x) {
        x.person(1000);
        x.person(500);
        for (int sort = 0; sort < 5; sort++) {
            for (int month = 0; month < 7; month++) {
                x.growth(sort, month, 3 * month + sort % 3);
            }
        }
    }

    /** Some of everything: a former text, bytes on the tape, persons that fail, one that sold double. */
    static void inUse(BulbPapers x) {
        x.person(1000);
        x.person(300);
        x.person(60);
        x.growth(0, 0, 20);
        x.growth(2, 3, 0);
        x.bulb(0, 0, 100);
        x.month();
        x.bulb(1, 2, 50);
        Text.house(x, "wine 50;most 20;deposit 10;");
        x.paper(0, 1, 0, 2);
        x.paper(1, 0, 0, 3);
        x.paper(0, 2, 0, 1);
        x.paper(1, 2, 1, 1);
        x.paper(1, 0, 1, 4);
        Text.put(x, "most 7;");
    }

    /** Every limit is reached: 10 persons, 12 bulbs, 40 papers, SPRING, a tape of 120 bytes, a fault. */
    static void full(BulbPapers x) {
        for (int person = 0; person < 10; person++) {
            x.person(person * 900);
        }
        for (int bulb = 0; bulb < 12; bulb++) {
            x.bulb(bulb % 10, bulb % 5, 200 - 17 * bulb);
        }
        Text.house(x, "wine 30;most 9;deposit 5;");
        for (int paper = 0; paper < 40; paper++) {
            int bulb = paper % 12;
            int seller = bulb % 10;
            int buyer = paper % 2 == 0 ? 9 : 8;
            x.paper(seller, buyer == seller ? 7 : buyer, bulb, 1 + paper % 10);
            if (paper % 5 == 4) {
                x.month();
            }
        }
        Text.house(x, "wine 30;most 109;");
        Text.put(x, "wine 77;" + " ".repeat(112));
    }
}
