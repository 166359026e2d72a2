/** Promises 1, 2, 15: a new object, person, purse. */
final class PersonsTest {
    private PersonsTest() {
    }

    public static void main(String[] args) {
        newObject();
        persons();
        manyPersons();
        purses();
        Check.finish();
    }

    private static void newObject() {
        BulbPapers x = new BulbPapers();
        int[] about = {0, 0, 0, 0, 25, 3, 0, 0, 0, 0};
        for (int what = 0; what < about.length; what++) {
            Check.due("new about(" + what + ")", x.about(what), about[what]);
        }
        Check.due("new purse(0)", x.purse(0), -1);
        Check.due("new weight(0, 0)", x.weight(0, 0), -1);
        Check.due("new paperOf(0, 0)", x.paperOf(0, 0), -1);
        Check.due("new holds(0, 0)", x.holds(0, 0), -1000);
        Check.due("new doubles()", x.doubles(), 0);
        Check.due("new left(0, 0, 0)", x.left(0, 0, 0), -2000000000);
        Check.due("new paid(0, 0, 0)", x.paid(0, 0, 0), -1);
        for (int way = 0; way < 4; way++) {
            Check.due("new all(" + way + ", 0)", x.all(way, 0), 0);
        }
        Check.due("new fails(0)", x.fails(0), -1);
        Check.due("new hurts()", x.hurts(), -1);
        Check.due("new fault(0)", x.fault(0), -1);
        Check.due("new fault(1)", x.fault(1), -1);
    }

    private static void persons() {
        BulbPapers x = new BulbPapers();
        Check.due("person(-1)", x.person(-1), -1);
        Check.due("person(100001)", x.person(100001), -1);
        Check.due("person(least)", x.person(Integer.MIN_VALUE), -1);
        Check.due("person(greatest)", x.person(Integer.MAX_VALUE), -1);
        Check.due("none came", x.about(0), 0);
        Check.due("person(0)", x.person(0), 0);
        Check.due("person(100000)", x.person(100000), 1);
        Check.due("purse(0)", x.purse(0), 0);
        Check.due("purse(1)", x.purse(1), 100000);
    }

    private static void manyPersons() {
        BulbPapers x = new BulbPapers();
        for (int i = 0; i < 10; i++) {
            Check.due("person " + i, x.person(i * 11), i);
        }
        Check.due("an eleventh", x.person(5), -1);
        Check.due("about(0)", x.about(0), 10);
        for (int i = 0; i < 10; i++) {
            Check.due("purse(" + i + ")", x.purse(i), i * 11);
        }
        Check.due("purse(10)", x.purse(10), -1);
    }

    private static void purses() {
        BulbPapers x = new BulbPapers();
        x.person(7);
        Check.due("purse(-1)", x.purse(-1), -1);
        Check.due("purse(1)", x.purse(1), -1);
        Check.due("purse(least)", x.purse(Integer.MIN_VALUE), -1);
        Check.due("purse(greatest)", x.purse(Integer.MAX_VALUE), -1);
        Check.due("purse(0)", x.purse(0), 7);
    }
}
