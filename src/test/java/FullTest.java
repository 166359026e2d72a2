import java.util.Random;

/** All limits reached at once: every look at a full object, against the plain model. */
final class FullTest {
    private final BulbPapers x = new BulbPapers();
    private final Model model = new Model();

    /** Some 100 calls. */
    private FullTest(int seed, int richest, int heaviest) {
        Random random = new Random(seed);
        for (int month = 0; month < 7; month++) {
            x.growth(0, month, 20);
            model.growth(0, month, 20);
        }
        for (int i = 0; i < 10; i++) {
            int purse = random.nextInt(richest + 1);
            Check.due("person", x.person(purse), model.person(purse));
        }
        for (int i = 0; i < 12; i++) {
            int weight = i % 2 == 0 ? heaviest : 1 + random.nextInt(9);
            Check.due("bulb", x.bulb(i % 10, 0, weight), model.bulb(i % 10, 0, weight));
        }
        Text.put(x, "wine 0;");
        x.house();
        model.feed(0x77696e65, 0x20303b20, 0x20202020, 0x20202020, 0x20202020);
        model.house();
        for (int i = 0; i < 40; i++) {
            int bulb = random.nextInt(12);
            int seller = bulb % 10;
            int buyer = (seller + 1 + random.nextInt(random.nextBoolean() ? 9 : 1)) % 10;
            Check.due("paper", x.paper(seller, buyer, bulb, 10), model.paper(seller, buyer, bulb, 10));
        }
    }

    public static void main(String[] args) {
        for (int seed = 0; seed < 60; seed++) {
            int[] riches = {0, 1, 50, 2000, 100000};
            int richest = riches[seed % riches.length];
            int heaviest = seed % 2 == 0 ? 200 : 6;
            new FullTest(seed, richest, heaviest).persons(seed);
            new FullTest(seed, richest, heaviest).papers(seed);
            new FullTest(seed, richest, heaviest).holdings(seed);
        }
        Check.finish();
    }

    private void persons(int seed) {
        Check.due(seed + " doubles()", x.doubles(), model.doubles());
        Check.due(seed + " hurts()", x.hurts(), model.hurts());
        for (int what = -1; what <= 10; what++) {
            Check.due(seed + " about(" + what + ")", x.about(what), model.about(what));
        }
        for (int person = 0; person <= 10; person++) {
            Check.due(seed + " purse(" + person + ")", x.purse(person), model.purse(person));
            Check.due(seed + " fails(" + person + ")", x.fails(person), model.fails(person));
            for (int way = 0; way <= 4; way++) {
                String call = seed + " left(" + person + ", " + way + ", 77)";
                Check.due(call, x.left(person, way, 77), model.left(person, way, 77));
            }
        }
    }

    private void papers(int seed) {
        for (int paper = 0; paper <= 40; paper++) {
            for (int what = 8; what <= 10; what++) {
                Check.due(seed + " paperOf(" + paper + ", " + what + ")", x.paperOf(paper, what), model.paperOf(paper, what));
            }
            for (int way = 1; way <= 3; way++) {
                String call = seed + " paid(" + paper + ", " + way + ", 31)";
                Check.due(call, x.paid(paper, way, 31), model.paid(paper, way, 31));
            }
        }
        for (int way = 0; way <= 4; way++) {
            Check.due(seed + " all(" + way + ", 99)", x.all(way, 99), model.all(way, 99));
        }
        Check.due(seed + " a 41st paper", x.paper(0, 1, 0, 1), -1);
        Check.due(seed + " a 13th bulb", x.bulb(0, 0, 1), -1);
        Check.due(seed + " an 11th person", x.person(1), -1);
    }

    private void holdings(int seed) {
        for (int person = 0; person <= 10; person++) {
            for (int bulb = 0; bulb <= 12; bulb++) {
                Check.due(seed + " holds(" + person + ", " + bulb + ")", x.holds(person, bulb), model.holds(person, bulb));
            }
        }
    }
}
