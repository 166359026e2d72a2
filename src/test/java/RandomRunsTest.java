import java.nio.charset.StandardCharsets;
import java.util.Random;

/** All promises: long runs of calls, always the same ones, against the plain model. */
final class RandomRunsTest {
    private static final int RUNS = 400;
    private static final int CALLS = 512;
    private static final int[] ODD = {-1, 0, 1, Integer.MIN_VALUE, Integer.MAX_VALUE, -1000, 100, 101, 12, 40};
    private static final String[] PIECES = {"wine", "most", "deposit", " ", "  ", ";", "0", "7", "25", "100",
        "101", "200", "201", "99999999999", "Wine", "wines", "?", "\u00ff", "x"};

    private final Random random;
    private final BulbPapers x = new BulbPapers();
    private final Model model = new Model();
    private final int richest;
    private String call = "";
    private long got;
    private long want;

    private RandomRunsTest(int seed) {
        random = new Random(seed);
        int[] riches = {0, 3, 60, 700, 8000, 100000};
        richest = riches[seed % riches.length];
    }

    public static void main(String[] args) {
        for (int seed = 0; seed < RUNS && Check.isFine(); seed++) {
            new RandomRunsTest(seed).run(seed);
        }
        Check.finish();
    }

    private void run(int seed) {
        int beginning = 8 + random.nextInt(20);
        for (int i = 0; i < CALLS; i++) {
            if (i < beginning) {
                begin(i);
            } else {
                any(random.nextInt(48));
            }
            Check.due("seed " + seed + ", call " + i + ": " + call, got, want);
        }
    }

    private int below(int n) {
        return random.nextInt(n);
    }

    /** Mostly a number below n, now and then one that is odd. */
    private int near(int n) {
        return below(25) == 0 ? ODD[below(ODD.length)] : below(n);
    }

    private void answer(String text, long answer, long due) {
        call = text;
        got = answer;
        want = due;
    }

    private void begin(int i) {
        if (i % 3 == 0) {
            person();
        } else if (i % 3 == 1 && i < 12) {
            growth();
        } else {
            bulb();
        }
    }

    private void any(int which) {
        switch (which) {
            case 0: person(); break;
            case 1: growth(); break;
            case 2: bulb(); break;
            case 3: month(); break;
            case 4: weight(); break;
            case 5: case 6: feed(); break;
            case 7: end(); break;
            case 8: house(); break;
            case 9: fault(); break;
            case 10: case 11: case 12: case 13: case 14: case 15: case 16: paper(); break;
            default: look(which % 10); break;
        }
    }

    private void look(int which) {
        int person = near(Math.max(1, model.about(0)));
        int paper = near(Math.max(1, model.about(2)));
        int bulb = near(Math.max(1, model.about(1)));
        int what = near(12);
        int way = below(3) > 0 ? 2 : near(4);
        int p = near(101);
        switch (which) {
            case 0: answer("paperOf(" + paper + ", " + what + ")", x.paperOf(paper, what), model.paperOf(paper, what)); break;
            case 1: answer("holds(" + person + ", " + bulb + ")", x.holds(person, bulb), model.holds(person, bulb)); break;
            case 2: answer("doubles()", x.doubles(), model.doubles()); break;
            case 3: answer("purse(" + person + ")", x.purse(person), model.purse(person)); break;
            case 4: answer("left(" + person + ", " + way + ", " + p + ")", x.left(person, way, p), model.left(person, way, p)); break;
            case 5: answer("paid(" + paper + ", " + way + ", " + p + ")", x.paid(paper, way, p), model.paid(paper, way, p)); break;
            case 6: answer("all(" + way + ", " + p + ")", x.all(way, p), model.all(way, p)); break;
            case 7: answer("fails(" + person + ")", x.fails(person), model.fails(person)); break;
            case 8: answer("hurts()", x.hurts(), model.hurts()); break;
            default: answer("about(" + what + ")", x.about(what), model.about(what)); break;
        }
    }

    private void person() {
        int purse = near(richest + 1);
        answer("person(" + purse + ")", x.person(purse), model.person(purse));
    }

    private void growth() {
        int sort = near(5);
        int month = near(7);
        int v = near(22);
        answer("growth(" + sort + ", " + month + ", " + v + ")",
                x.growth(sort, month, v) ? 1 : 0, model.growth(sort, month, v) ? 1 : 0);
    }

    private void bulb() {
        int planter = near(Math.max(1, model.about(0)));
        int sort = near(5);
        int weight = below(2) == 0 ? near(201) : near(12);
        answer("bulb(" + planter + ", " + sort + ", " + weight + ")",
                x.bulb(planter, sort, weight), model.bulb(planter, sort, weight));
    }

    private void month() {
        if (below(3) == 0) {
            answer("month()", x.month(), model.month());
        } else {
            weight();
        }
    }

    private void weight() {
        int bulb = near(Math.max(1, model.about(1)));
        int month = near(9);
        answer("weight(" + bulb + ", " + month + ")", x.weight(bulb, month), model.weight(bulb, month));
    }

    private void feed() {
        byte[] bytes = text().getBytes(StandardCharsets.ISO_8859_1);
        int[] f = new int[5];
        for (int i = 0; i < 5; i++) {
            f[i] = Text.four(bytes, i * 4);
        }
        answer("feed of a text", x.feed(f[0], f[1], f[2], f[3], f[4]), model.feed(f));
    }

    private String text() {
        StringBuilder text = new StringBuilder();
        while (text.length() < 20) {
            if (below(4) > 0) {
                text.append(PIECES[below(3)]).append(below(5) == 0 ? "" : " ").append(below(40)).append(";");
            } else {
                text.append(PIECES[below(PIECES.length)]);
            }
            if (below(3) == 0) {
                text.append("                    ");
            }
        }
        return text.toString();
    }

    private void end() {
        int n = near(model.about(8) + 2);
        answer("end(" + n + ")", x.end(n), model.end(n));
    }

    private void house() {
        answer("house()", x.house(), model.house());
    }

    private void fault() {
        int what = near(3);
        answer("fault(" + what + ")", x.fault(what), model.fault(what));
    }

    private void paper() {
        int seller = near(Math.max(1, model.about(0)));
        int buyer = near(Math.max(1, model.about(0)));
        int bulb = near(Math.max(1, model.about(1)));
        int price = near(11);
        answer("paper(" + seller + ", " + buyer + ", " + bulb + ", " + price + ")",
                x.paper(seller, buyer, bulb, price), model.paper(seller, buyer, bulb, price));
    }
}
