import java.util.function.ToIntFunction;

/** "An object is used for at most 512 calls after it has been made": the last of them answers as the first. */
final class LongUseTest {
    private static final int CALLS = 512;
    private static final int NONE = -1;

    private LongUseTest() {
    }

    public static void main(String[] args) {
        lastCallBehindRefusedOnes();
        fullObjectAskedToTheEnd();
        texts();
        growths();
        refusalsOfAFullObject();
        Check.finish();
    }

    /** Behind 511 refused calls the object is still a new one. */
    private static void lastCallBehindRefusedOnes() {
        last("person(9)", x -> x.person(9), 0);
        last("growth(0, 0, 0)", x -> x.growth(0, 0, 0) ? 1 : 0, 1);
        last("bulb(0, 0, 1)", x -> x.bulb(0, 0, 1), NONE);
        last("month()", x -> x.month(), 1);
        last("weight(0, 0)", x -> x.weight(0, 0), NONE);
        last("feed(0, 0, 0, 0, 0)", x -> x.feed(0, 0, 0, 0, 0), 20);
        last("end(0)", x -> x.end(0), 0);
        last("house()", x -> x.house(), 0);
        last("fault(0)", x -> x.fault(0), NONE);
        last("paper(0, 1, 0, 1)", x -> x.paper(0, 1, 0, 1), NONE);
        last("paperOf(0, 0)", x -> x.paperOf(0, 0), NONE);
        last("holds(0, 0)", x -> x.holds(0, 0), -1000);
        last("doubles()", x -> x.doubles(), 0);
        last("purse(0)", x -> x.purse(0), NONE);
        last("left(0, 0, 0)", x -> x.left(0, 0, 0), -2000000000);
        last("paid(0, 0, 0)", x -> x.paid(0, 0, 0), NONE);
        last("all(2, 0)", x -> x.all(2, 0), 0);
        last("fails(0)", x -> x.fails(0), NONE);
        last("hurts()", x -> x.hurts(), NONE);
        last("about(4)", x -> x.about(4), 25);
    }

    private static void last(String call, ToIntFunction<BulbPapers> ask, int due) {
        BulbPapers x = new BulbPapers();
        for (int i = 1; i < CALLS; i++) {
            Check.due("call " + i + ", refused", refused(x, i % 8), NONE);
        }
        Check.due(call + " as call " + CALLS, ask.applyAsInt(x), due);
    }

    private static int refused(BulbPapers x, int which) {
        switch (which) {
            case 0: return x.person(-1);
            case 1: return x.growth(5, 0, 0) ? 1 : NONE;
            case 2: return x.bulb(0, 0, 1);
            case 3: return x.weight(0, 0);
            case 4: return x.end(1);
            case 5: return x.paper(0, 1, 0, 1);
            case 6: return x.fault(0);
            default: return x.all(4, 0);
        }
    }

    /** The dearest looks, asked of a full object until its calls are used up. */
    private static void fullObjectAskedToTheEnd() {
        same("hurts()", x -> x.hurts());
        same("doubles()", x -> x.doubles());
        same("left(9, 2, 0)", x -> x.left(9, 2, 0));
        same("left(9, 3, 99)", x -> x.left(9, 3, 99));
        same("paid(39, 2, 0)", x -> x.paid(39, 2, 0));
        same("all(2, 0)", x -> x.all(2, 0));
        same("about(9)", x -> x.about(9));
        same("paperOf(39, 9)", x -> x.paperOf(39, 9));
    }

    private static void same(String call, ToIntFunction<BulbPapers> ask) {
        BulbPapers x = new BulbPapers();
        Worlds.full(x);
        int first = ask.applyAsInt(x);
        for (int again = 0; again < CALLS - 150; again++) {
            Check.due(call + " again, " + again, ask.applyAsInt(x), first);
        }
    }

    /** Text upon text, good and faulty ones in turn, three calls each. */
    private static void texts() {
        BulbPapers x = new BulbPapers();
        for (int text = 0; text < CALLS / 3; text++) {
            boolean isGood = text % 2 == 0;
            Check.due("feed " + text, x.feed(0x77696e65, 0x20373b20, isGood ? 0x20202020 : 0x203f2020, 0, 0), 20);
            Check.due("end " + text, x.end(12), 12);
            Check.due("house " + text, x.house(), isGood ? 1 : NONE);
        }
        Check.due("fault(0)", x.fault(0), 1 - CALLS / 3 % 2);
        Check.due("wine", x.about(4), 7);
    }

    /** Growths told over and over, and the last of them counts. */
    private static void growths() {
        BulbPapers x = new BulbPapers();
        x.person(0);
        for (int told = 0; told < CALLS - 12; told++) {
            Check.due("growth " + told, x.growth(told % 5, told % 7, told % 21), true);
        }
        int weight = 200;
        Check.due("bulb", x.bulb(0, 0, 200), 0);
        for (int month = 0; month < 7; month++) {
            int last = 0;
            for (int told = 0; told < CALLS - 12; told++) {
                last = told % 5 == 0 && told % 7 == month ? told % 21 : last;
            }
            weight = weight * (100 + last) / 100;
            Check.due("weight(0, " + (month + 1) + ")", x.weight(0, month + 1), weight);
        }
    }

    /** A full object refuses whatever would be one more, as often as it is asked. */
    private static void refusalsOfAFullObject() {
        BulbPapers x = new BulbPapers();
        Worlds.full(x);
        int left = x.left(9, 2, 0);
        for (int again = 0; again < 60; again++) {
            Check.due("person", x.person(100), NONE);
            Check.due("growth", x.growth(0, 0, 0), false);
            Check.due("bulb", x.bulb(0, 0, 1), NONE);
            Check.due("month", x.month(), NONE);
            Check.due("feed", x.feed(1, 2, 3, 4, 5), NONE);
            Check.due("paper", x.paper(0, 9, 0, 1), NONE);
        }
        Check.due("left(9, 2, 0)", x.left(9, 2, 0), left);
        Check.due("about(8)", x.about(8), 120);
        Check.due("house()", x.house(), 1);
        Check.due("wine", x.about(4), 77);
    }
}
