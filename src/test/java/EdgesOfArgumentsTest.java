/** Every argument of every call: the last values taken, the first refused, and that a refusal changes nothing. */
final class EdgesOfArgumentsTest {
    private static final int NONE = -1;
    private static final int NO_HOLDINGS = -1000;
    private static final int NO_LEFT = -2000000000;

    private EdgesOfArgumentsTest() {
    }

    public static void main(String[] args) {
        person();
        growth();
        bulb();
        weight();
        end();
        fault();
        paper();
        paperOf();
        holds();
        purse();
        left();
        paid();
        all();
        fails();
        about();
        emptyObject();
        Check.finish();
    }

    /** "PURSE (coins, 0 .. 100000 at first)"; "NONE for others". */
    private static void person() {
        Edges.of("person(*)", Worlds::empty, (x, v) -> x.person(v), NONE, 0, 100000);
        Edges.of("person(*)", Worlds::inUse, (x, v) -> x.person(v), NONE, 0, 100000);
    }

    /** "SORTS 0 .. 4", "MONTH 0 .. 6", "0 .. 20 hundredths"; "False for others". */
    private static void growth() {
        Edges.of("growth(*, 3, 1)", Worlds::unplanted, (x, v) -> x.growth(v, 3, 1) ? 1 : 0, 0, 0, 4);
        Edges.of("growth(3, *, 1)", Worlds::unplanted, (x, v) -> x.growth(3, v, 1) ? 1 : 0, 0, 0, 6);
        Edges.of("growth(3, 3, *)", Worlds::unplanted, (x, v) -> x.growth(3, 3, v) ? 1 : 0, 0, 0, 20);
    }

    /** "BULBS: a PLANTER, a SORT, a WEIGHT (1 .. 200)"; "NONE for others". */
    private static void bulb() {
        Edges.of("bulb(*, 1, 9)", Worlds::inUse, (x, v) -> x.bulb(v, 1, 9), NONE, 0, 2);
        Edges.of("bulb(1, *, 9)", Worlds::inUse, (x, v) -> x.bulb(1, v, 9), NONE, 0, 4);
        Edges.of("bulb(1, 1, *)", Worlds::inUse, (x, v) -> x.bulb(1, 1, v), NONE, 1, 200);
        Edges.of("the first bulb(*, 1, 9)", Worlds::unplanted, (x, v) -> x.bulb(v, 1, 9), NONE, 0, 1);
    }

    /** "WEIGHT of a BULB in a MONTH (from that in which it was planted to 7). NONE for others." */
    private static void weight() {
        Edges.of("weight(*, 4)", Worlds::inUse, (x, v) -> x.weight(v, 4), NONE, 0, 1);
        Edges.of("weight(0, *)", Worlds::inUse, (x, v) -> x.weight(0, v), NONE, 0, 7);
        Edges.of("weight(1, *)", Worlds::inUse, (x, v) -> x.weight(1, v), NONE, 1, 7);
        Edges.of("weight(*, 7)", Worlds::full, (x, v) -> x.weight(v, 7), NONE, 0, 11);
    }

    /** "NONE, and nothing is done, if it has not so many, or n is below 0." */
    private static void end() {
        Edges.of("end(*) of no bytes", Worlds::empty, (x, v) -> x.end(v), NONE, 0, 0);
        Edges.of("end(*) of 7 bytes", Worlds::inUse, (x, v) -> x.end(v), NONE, 0, 7);
        Edges.of("end(*) of 120 bytes", Worlds::full, (x, v) -> x.end(v), NONE, 0, 120);
    }

    /** "0 its FAULT, 1 its place. NONE for others". */
    private static void fault() {
        Edges.of("fault(*)", Worlds::full, (x, v) -> x.fault(v), NONE, 0, 1);
    }

    /** "a SELLER, a BUYER, a BULB, a PRICE (1 .. 10 coins)"; "NONE: others". */
    private static void paper() {
        Edges.of("paper(*, other, 0, 1)", Worlds::inUse, (x, v) -> x.paper(v, v == 0 ? 1 : 0, 0, 1), NONE, 0, 2);
        Edges.of("paper(other, *, 0, 1)", Worlds::inUse, (x, v) -> x.paper(v == 0 ? 1 : 0, v, 0, 1), NONE, 0, 2);
        Edges.of("paper(0, 1, *, 1)", Worlds::inUse, (x, v) -> x.paper(0, 1, v, 1), NONE, 0, 1);
        Edges.of("paper(0, 1, 0, *)", Worlds::inUse, (x, v) -> x.paper(0, 1, 0, v), NONE, 1, 10);
    }

    /** "Of a PAPER: 0 SELLER .. 10 OWED. NONE for others." Paper 1 comes from one, so that 8 is told too. */
    private static void paperOf() {
        Edges.of("paperOf(*, 3)", Worlds::inUse, (x, v) -> x.paperOf(v, 3), NONE, 0, 4);
        Edges.of("paperOf(1, *)", Worlds::inUse, (x, v) -> x.paperOf(1, v), NONE, 0, 10);
        Edges.of("paperOf(*, 3)", Worlds::full, (x, v) -> x.paperOf(v, 3), NONE, 0, 39);
    }

    /** "-1000 for others." */
    private static void holds() {
        Edges.of("holds(*, 1)", Worlds::inUse, (x, v) -> x.holds(v, 1), NO_HOLDINGS, 0, 2);
        Edges.of("holds(1, *)", Worlds::inUse, (x, v) -> x.holds(1, v), NO_HOLDINGS, 0, 1);
        Edges.of("holds(*, 11)", Worlds::full, (x, v) -> x.holds(v, 11), NO_HOLDINGS, 0, 9);
        Edges.of("holds(9, *)", Worlds::full, (x, v) -> x.holds(9, v), NO_HOLDINGS, 0, 11);
    }

    /** "PURSE of a PERSON. NONE: there is none such." */
    private static void purse() {
        Edges.of("purse(*)", Worlds::inUse, (x, v) -> x.purse(v), NONE, 0, 2);
        Edges.of("purse(*)", Worlds::full, (x, v) -> x.purse(v), NONE, 0, 9);
    }

    /** "a WAY (0 .. 3; p of a DECREE, else it doesn't count). -2000000000 for others." */
    private static void left() {
        for (int way = 0; way < 4; way++) {
            int w = way;
            Edges.of("left(*, " + w + ", 5)", Worlds::inUse, (x, v) -> x.left(v, w, 5), NO_LEFT, 0, 2);
        }
        Edges.of("left(1, *, 5)", Worlds::inUse, (x, v) -> x.left(1, v, 5), NO_LEFT, 0, 3);
        Edges.of("left(1, 3, *)", Worlds::inUse, (x, v) -> x.left(1, 3, v), NO_LEFT, 0, 100);
        Edges.of("left(*, 2, 5)", Worlds::full, (x, v) -> x.left(v, 2, 5), NO_LEFT, 0, 9);
    }

    /** "PAID of a PAPER by a WAY (p of a DECREE, else it doesn't count). NONE for others." */
    private static void paid() {
        for (int way = 0; way < 4; way++) {
            int w = way;
            Edges.of("paid(*, " + w + ", 5)", Worlds::inUse, (x, v) -> x.paid(v, w, 5), NONE, 0, 4);
        }
        Edges.of("paid(1, *, 5)", Worlds::inUse, (x, v) -> x.paid(1, v, 5), NONE, 0, 3);
        Edges.of("paid(1, 3, *)", Worlds::inUse, (x, v) -> x.paid(1, 3, v), NONE, 0, 100);
        Edges.of("paid(*, 2, 5)", Worlds::full, (x, v) -> x.paid(v, 2, 5), NONE, 0, 39);
    }

    /** "What is paid together by a WAY. NONE for others." */
    private static void all() {
        Edges.of("all(*, 5)", Worlds::inUse, (x, v) -> x.all(v, 5), NONE, 0, 3);
        Edges.of("all(3, *)", Worlds::inUse, (x, v) -> x.all(3, v), NONE, 0, 100);
        Edges.of("all(*, 5) without papers", Worlds::empty, (x, v) -> x.all(v, 5), NONE, 0, 3);
        Edges.of("all(3, *) without papers", Worlds::empty, (x, v) -> x.all(3, v), NONE, 0, 100);
    }

    /** "Whether a PERSON FAILS (1, 0). NONE: there is none such." */
    private static void fails() {
        Edges.of("fails(*)", Worlds::inUse, (x, v) -> x.fails(v), NONE, 0, 2);
        Edges.of("fails(*)", Worlds::full, (x, v) -> x.fails(v), NONE, 0, 9);
    }

    /** "0 PERSONS .. 9 how many FAIL. NONE for others." */
    private static void about() {
        Edges.of("about(*)", Worlds::empty, (x, v) -> x.about(v), NONE, 0, 9);
        Edges.of("about(*)", Worlds::full, (x, v) -> x.about(v), NONE, 0, 9);
    }

    /** Of an object without persons, bulbs, papers, even the number 0 is an other. */
    private static void emptyObject() {
        Edges.refused("empty bulb(0, 0, 1)", Worlds::empty, x -> x.bulb(0, 0, 1), NONE);
        Edges.refused("empty weight(0, 0)", Worlds::empty, x -> x.weight(0, 0), NONE);
        Edges.refused("empty paper(0, 1, 0, 1)", Worlds::empty, x -> x.paper(0, 1, 0, 1), NONE);
        Edges.refused("unplanted weight(0, 0)", Worlds::unplanted, x -> x.weight(0, 0), NONE);
        Edges.refused("unplanted paper(0, 1, 0, 1)", Worlds::unplanted, x -> x.paper(0, 1, 0, 1), NONE);
        Edges.refused("unplanted holds(0, 0)", Worlds::unplanted, x -> x.holds(0, 0), NO_HOLDINGS);
        Edges.refused("empty paperOf(0, 0)", Worlds::empty, x -> x.paperOf(0, 0), NONE);
        Edges.refused("empty holds(0, 0)", Worlds::empty, x -> x.holds(0, 0), NO_HOLDINGS);
        Edges.refused("empty purse(0)", Worlds::empty, x -> x.purse(0), NONE);
        Edges.refused("empty fails(0)", Worlds::empty, x -> x.fails(0), NONE);
        Edges.refused("empty fault(0)", Worlds::empty, x -> x.fault(0), NONE);
        Edges.refused("empty fault(1)", Worlds::empty, x -> x.fault(1), NONE);
        for (int way = 0; way < 4; way++) {
            int w = way;
            Edges.refused("empty left(0, " + w + ", 0)", Worlds::empty, x -> x.left(0, w, 0), NO_LEFT);
            Edges.refused("empty paid(0, " + w + ", 0)", Worlds::empty, x -> x.paid(0, w, 0), NONE);
        }
    }
}
