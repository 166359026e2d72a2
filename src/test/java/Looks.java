import java.util.ArrayList;
import java.util.List;
import java.util.function.Consumer;
import java.util.function.ToIntFunction;

/** Everything that can be asked of an object, to tell whether two objects are alike. */
final class Looks {
    private record Look(String call, ToIntFunction<BulbPapers> ask) {
    }

    // an object is good for 512 calls, and making it takes up to 200 of them
    private static final int AT_ONCE = 300;
    private static final int P = 37;
    private static final List<Look> LOOKS = looks();
    private static final List<Look> DEEDS = deeds();

    private Looks() {
    }

    /** Both are made anew again and again, since one object doesn't live for all the looks. */
    static void alike(String run, Consumer<BulbPapers> one, Consumer<BulbPapers> other) {
        for (int from = 0; from < LOOKS.size(); from += AT_ONCE) {
            compare(run, one, other, LOOKS.subList(from, Math.min(from + AT_ONCE, LOOKS.size())));
        }
        compare(run, one, other, DEEDS);
    }

    private static void compare(String run, Consumer<BulbPapers> one, Consumer<BulbPapers> other, List<Look> looks) {
        int[] got = answers(one, looks);
        int[] due = answers(other, looks);
        for (int i = 0; i < due.length; i++) {
            Check.due(run + ", then " + looks.get(i).call, got[i], due[i]);
        }
    }

    private static int[] answers(Consumer<BulbPapers> made, List<Look> looks) {
        BulbPapers x = new BulbPapers();
        made.accept(x);
        return looks.stream().mapToInt(look -> look.ask.applyAsInt(x)).toArray();
    }

    private static List<Look> looks() {
        List<Look> looks = new ArrayList<>();
        for (int i = 0; i < 10; i++) {
            int what = i;
            looks.add(new Look("about(" + what + ")", x -> x.about(what)));
        }
        looks.add(new Look("fault(0)", x -> x.fault(0)));
        looks.add(new Look("fault(1)", x -> x.fault(1)));
        looks.add(new Look("doubles()", x -> x.doubles()));
        looks.add(new Look("hurts()", x -> x.hurts()));
        for (int i = 0; i < 4; i++) {
            int way = i;
            looks.add(new Look("all(" + way + ", 37)", x -> x.all(way, P)));
        }
        for (int person = 0; person < 10; person++) {
            addPerson(looks, person);
        }
        for (int bulb = 0; bulb < 12; bulb++) {
            addBulb(looks, bulb);
        }
        for (int paper = 0; paper < 40; paper++) {
            addPaper(looks, paper);
        }
        return looks;
    }

    private static void addPerson(List<Look> looks, int person) {
        looks.add(new Look("purse(" + person + ")", x -> x.purse(person)));
        looks.add(new Look("fails(" + person + ")", x -> x.fails(person)));
        for (int i = 0; i < 4; i++) {
            int way = i;
            looks.add(new Look("left(" + person + ", " + way + ", 37)", x -> x.left(person, way, P)));
        }
        for (int i = 0; i < 12; i++) {
            int bulb = i;
            looks.add(new Look("holds(" + person + ", " + bulb + ")", x -> x.holds(person, bulb)));
        }
    }

    private static void addBulb(List<Look> looks, int bulb) {
        for (int i = 0; i < 8; i++) {
            int month = i;
            looks.add(new Look("weight(" + bulb + ", " + month + ")", x -> x.weight(bulb, month)));
        }
    }

    private static void addPaper(List<Look> looks, int paper) {
        for (int i = 0; i < 11; i++) {
            int what = i;
            looks.add(new Look("paperOf(" + paper + ", " + what + ")", x -> x.paperOf(paper, what)));
        }
        for (int i = 0; i < 4; i++) {
            int way = i;
            looks.add(new Look("paid(" + paper + ", " + way + ", 37)", x -> x.paid(paper, way, P)));
        }
    }

    /** Calls that change the object, but bring to light what no look tells: the tape's bytes, the growths. */
    private static List<Look> deeds() {
        List<Look> deeds = new ArrayList<>();
        deeds.add(new Look("house()", x -> x.house()));
        deeds.add(new Look("fault(0) of it", x -> x.fault(0)));
        deeds.add(new Look("fault(1) of it", x -> x.fault(1)));
        for (int i = 4; i < 7; i++) {
            int what = i;
            deeds.add(new Look("about(" + what + ") of it", x -> x.about(what)));
        }
        deeds.add(new Look("person(77)", x -> x.person(77)));
        for (int i = 0; i < 5; i++) {
            int sort = i;
            deeds.add(new Look("bulb(0, " + sort + ", 200)", x -> x.bulb(0, sort, 200)));
            for (int j = 0; j < 8; j++) {
                int month = j;
                deeds.add(new Look("its weight in " + month, x -> x.weight(x.about(1) - 1, month)));
            }
        }
        deeds.add(new Look("paper(0, 1, 0, 2)", x -> x.paper(0, 1, 0, 2)));
        deeds.add(new Look("paper(1, 0, 0, 3)", x -> x.paper(1, 0, 0, 3)));
        deeds.add(new Look("purse(0) behind it", x -> x.purse(0)));
        deeds.add(new Look("all(2, 0) behind it", x -> x.all(2, 0)));
        deeds.add(new Look("month()", x -> x.month()));
        deeds.add(new Look("feed(1, 2, 3, 4, 5)", x -> x.feed(1, 2, 3, 4, 5)));
        return deeds;
    }
}
