import java.util.Random;

/** Way 2 of spring: of all ways in which each pays as far as it can, the one in which most is paid. */
final class MostIsPaidTest {
    private static final int PERSONS = 4;

    private final BulbPapers x = new BulbPapers();
    private final int[] purses = new int[PERSONS];
    private final int papers;
    // read once, as an object is good for 512 calls only
    private final int[] sellers;
    private final int[] buyers;
    private final int[] owed;
    private int[] best = new int[0];
    private int most = -1;
    private int ways = 0;

    private MostIsPaidTest(Random random) {
        for (int person = 0; person < PERSONS; person++) {
            purses[person] = random.nextInt(3) == 0 ? random.nextInt(4) : 0;
            x.person(purses[person]);
        }
        Text.house(x, "wine 0;");
        for (int person = 0; person < PERSONS; person++) {
            x.bulb(person, 0, 1);
        }
        for (int tries = 0; tries < 9; tries++) {
            int seller = random.nextInt(PERSONS);
            x.paper(seller, random.nextInt(PERSONS), seller, 1 + random.nextInt(4));
        }
        papers = x.about(2);
        sellers = facts(0);
        buyers = facts(1);
        owed = facts(10);
    }

    private int[] facts(int what) {
        int[] row = new int[papers];
        for (int paper = 0; paper < papers; paper++) {
            row[paper] = x.paperOf(paper, what);
        }
        return row;
    }

    public static void main(String[] args) {
        Random random = new Random(7);
        int several = 0;
        for (int run = 0; run < 300 && Check.isFine(); run++) {
            MostIsPaidTest test = new MostIsPaidTest(random);
            test.tryAll(new int[PERSONS], 0);
            test.compare(run);
            several += test.ways > 1 ? 1 : 0;
        }
        Check.due("runs with several ways are among them", several > 20, true);
        Check.finish();
    }

    /** Every sum that each person may pay in all; the papers follow from it, as they go in order. */
    private void tryAll(int[] sums, int person) {
        if (person == PERSONS) {
            look(sums);
            return;
        }
        for (int sum = 0; sum <= owedBy(person); sum++) {
            sums[person] = sum;
            tryAll(sums, person + 1);
        }
    }

    private int owedBy(int person) {
        int sum = 0;
        for (int paper = 0; paper < papers; paper++) {
            sum += buyers[paper] == person ? owed[paper] : 0;
        }
        return sum;
    }

    private void look(int[] sums) {
        int[] open = sums.clone();
        int[] coins = purses.clone();
        int[] paid = new int[papers];
        int all = 0;
        for (int paper = 0; paper < papers; paper++) {
            int buyer = buyers[paper];
            paid[paper] = Math.min(open[buyer], owed[paper]);
            open[buyer] -= paid[paper];
            coins[sellers[paper]] += paid[paper];
            all += paid[paper];
        }
        for (int person = 0; person < PERSONS; person++) {
            if (sums[person] != Math.min(coins[person], owedBy(person))) {
                return;
            }
        }
        ways++;
        if (all > most) {
            most = all;
            best = paid;
        }
    }

    private void compare(int run) {
        Check.due("run " + run + ": all(2, 0)", x.all(2, 0), most);
        for (int paper = 0; paper < papers; paper++) {
            Check.due("run " + run + ": paid(" + paper + ", 2, 0)", x.paid(paper, 2, 0), best[paper]);
        }
    }
}
