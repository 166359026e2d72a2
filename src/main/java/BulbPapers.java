import java.util.Arrays;

/** Bulbs sold on paper in winter: who holds what, and what each has left in spring. */
public final class BulbPapers {
    public static final int NONE = -1;

    private static final int SPRING = 7;
    private static final int NO_HOLDINGS = -1000;
    private static final int NO_REST = -2000000000;

    private final Persons persons;
    private final Garden garden;
    private final Tape tape;
    private final House inn;
    private final Papers papers;
    private final Reckoning reckoning;

    public BulbPapers() {
        persons = new Persons();
        garden = new Garden();
        tape = new Tape();
        inn = new House();
        papers = new Papers();
        reckoning = new Reckoning();
    }

    public int person(int purse) {
        return persons.enter(purse);
    }

    public boolean growth(int sort, int month, int v) {
        return garden.setGrowth(sort, month, v);
    }

    public int bulb(int planter, int sort, int weight) {
        return persons.has(planter) ? garden.plant(planter, sort, weight) : NONE;
    }

    public int month() {
        return garden.tick();
    }

    public int weight(int bulb, int month) {
        return garden.weightIn(bulb, month);
    }

    public int feed(int a, int b, int c, int d, int e) {
        if (!tape.takesFive()) {
            return NONE;
        }
        tape.append(a);
        tape.append(b);
        tape.append(c);
        tape.append(d);
        tape.append(e);
        return tape.size();
    }

    public int end(int n) {
        return tape.shorten(n);
    }

    public int house() {
        int clauses = inn.read(tape);
        tape.shorten(0);
        return clauses;
    }

    public int fault(int what) {
        switch (what) {
            case 0: return inn.faultKind();
            case 1: return inn.faultPlace();
            default: return NONE;
        }
    }

    public int paper(int seller, int buyer, int bulb, int price) {
        if (!canBeTold(seller, buyer, bulb, price)) {
            return NONE;
        }
        int now = price * garden.weightIn(bulb, garden.clock());
        int wine = inn.wineOf(now);
        int deposit = inn.depositOf(now);
        if (persons.coins(buyer) < wine + deposit) {
            return NONE;
        }
        persons.addCoins(buyer, -wine - deposit);
        persons.addCoins(seller, deposit);
        inn.earn(wine);
        int told = papers.tell(seller, buyer, bulb, price, garden.clock());
        papers.setMoney(told, price * garden.weightIn(bulb, SPRING), deposit, wine);
        reckoning.settle(papers, persons);
        return told;
    }

    public int paperOf(int paper, int what) {
        return papers.has(paper) && what >= 0 && what < Papers.FACTS ? papers.fact(paper, what) : NONE;
    }

    public int holds(int person, int bulb) {
        return persons.has(person) && garden.has(bulb) ? balance(person, bulb) : NO_HOLDINGS;
    }

    public int doubles() {
        int times = 0;
        for (int person = 0; person < persons.size(); person++) {
            for (int bulb = 0; bulb < garden.size(); bulb++) {
                if (balance(person, bulb) < 0) {
                    times++;
                }
            }
        }
        return times;
    }

    public int purse(int person) {
        return persons.has(person) ? persons.coins(person) : NONE;
    }

    public int left(int person, int way, int p) {
        if (!persons.has(person) || !Reckoning.isWay(way, p)) {
            return NO_REST;
        }
        reckoning.spread(papers, persons, way, p);
        return reckoning.restOf(person);
    }

    public int paid(int paper, int way, int p) {
        return papers.has(paper) && Reckoning.isWay(way, p) ? reckoning.share(papers, paper, way, p) : NONE;
    }

    public int all(int way, int p) {
        return Reckoning.isWay(way, p) ? reckoning.together(papers, way, p) : NONE;
    }

    public int fails(int person) {
        if (!persons.has(person)) {
            return NONE;
        }
        return reckoning.isFailing(papers, person) ? 1 : 0;
    }

    public int hurts() {
        for (int p = 0; p <= Reckoning.WHOLE; p++) {
            reckoning.spread(papers, persons, Reckoning.DECREE, p);
            if (reckoning.firstShort(persons.size()) != NONE) {
                return p;
            }
        }
        return NONE;
    }

    public int about(int what) {
        switch (what) {
            case 0: return persons.size();
            case 1: return garden.size();
            case 2: return papers.size();
            case 3: return garden.clock();
            case 4: return inn.term(House.WINE);
            case 5: return inn.term(House.MOST);
            case 6: return inn.term(House.DEPOSIT);
            case 7: return inn.earned();
            case 8: return tape.size();
            case 9: return failing();
            default: return NONE;
        }
    }

    private boolean canBeTold(int seller, int buyer, int bulb, int price) {
        return persons.has(seller) && persons.has(buyer) && seller != buyer && garden.has(bulb)
                && price >= 1 && price <= Papers.DEAREST && !papers.isFull()
                && holdings(seller, bulb) > 0;
    }

    private int holdings(int person, int bulb) {
        int planted = garden.planterOf(bulb) == person ? 1 : 0;
        return planted + papers.countOf(Papers.BUYER, person, bulb);
    }

    private int balance(int person, int bulb) {
        return holdings(person, bulb) - papers.countOf(Papers.SELLER, person, bulb);
    }

    private int failing() {
        int count = 0;
        for (int person = 0; person < persons.size(); person++) {
            if (reckoning.isFailing(papers, person)) {
                count++;
            }
        }
        return count;
    }

    /** The persons and their purses. */
    private static final class Persons {
        static final int LIMIT = 10;
        private static final int RICHEST = 100000;

        private final int[] purses;
        private int count;

        Persons() {
            purses = new int[LIMIT];
            count = 0;
        }

        int enter(int coins) {
            if (coins < 0 || coins > RICHEST || count >= LIMIT) {
                return NONE;
            }
            purses[count] = coins;
            count++;
            return count - 1;
        }

        int size() {
            return count;
        }

        boolean has(int person) {
            return person >= 0 && person < count;
        }

        int coins(int person) {
            return purses[person];
        }

        void addCoins(int person, int coins) {
            purses[person] += coins;
        }
    }

    /** The clock, the growth of the sorts, and the bulbs in the ground. */
    private static final class Garden {
        private static final int SORTS = 5;
        private static final int LIMIT = 12;
        private static final int HEAVIEST = 200;
        private static final int FASTEST = 20;
        private static final int USUAL = 10;

        // one row for all sorts, SPRING months each: month 7 is the end and has no growth
        private final int[] growths;
        private final int[] planters;
        private final int[] sorts;
        private final int[] weights;
        private final int[] planted;
        private int clock;
        private int count;

        Garden() {
            growths = new int[SORTS * SPRING];
            for (int i = 0; i < growths.length; i++) {
                growths[i] = USUAL;
            }
            planters = new int[LIMIT];
            sorts = new int[LIMIT];
            weights = new int[LIMIT];
            planted = new int[LIMIT];
            clock = 0;
            count = 0;
        }

        boolean setGrowth(int sort, int month, int hundredths) {
            if (count > 0 || !isSort(sort) || month < 0 || month >= SPRING
                    || hundredths < 0 || hundredths > FASTEST) {
                return false;
            }
            growths[sort * SPRING + month] = hundredths;
            return true;
        }

        int plant(int planter, int sort, int weight) {
            if (count >= LIMIT || clock >= SPRING || !isSort(sort) || weight < 1 || weight > HEAVIEST) {
                return NONE;
            }
            planters[count] = planter;
            sorts[count] = sort;
            weights[count] = weight;
            planted[count] = clock;
            count++;
            return count - 1;
        }

        int tick() {
            if (clock >= SPRING) {
                return NONE;
            }
            clock++;
            return clock;
        }

        int weightIn(int bulb, int month) {
            if (!has(bulb) || month < planted[bulb] || month > SPRING) {
                return NONE;
            }
            int weight = weights[bulb];
            for (int by = planted[bulb]; by < month; by++) {
                weight = weight * (100 + growths[sorts[bulb] * SPRING + by]) / 100;
            }
            return weight;
        }

        boolean has(int bulb) {
            return bulb >= 0 && bulb < count;
        }

        int planterOf(int bulb) {
            return planters[bulb];
        }

        int size() {
            return count;
        }

        int clock() {
            return clock;
        }

        private static boolean isSort(int sort) {
            return sort >= 0 && sort < SORTS;
        }
    }

    /** The bytes that came, and the token that was come to last. */
    private static final class Tape {
        static final int STOP = 0;
        static final int LETTERS = 1;
        static final int DIGITS = 2;
        static final int SEMICOLON = 3;
        private static final int NO_TOKEN = 4;

        private static final int LIMIT = 120;
        private static final int FIVE_INTS = 20;
        private static final int BLANK = 32;
        // above every number that a clause may tell: bigger ones need not be told apart
        private static final int HUGE = 1000;

        private final int[] bytes;
        private int length;
        private int tokenKind;
        private int tokenStart;
        private int tokenStop;

        Tape() {
            bytes = new int[LIMIT];
            length = 0;
            tokenKind = STOP;
            tokenStart = 0;
            tokenStop = 0;
        }

        boolean takesFive() {
            return length + FIVE_INTS <= LIMIT;
        }

        void append(int four) {
            for (int shift = 24; shift >= 0 && length < LIMIT; shift -= 8) {
                bytes[length] = (four >>> shift) & 255;
                length++;
            }
        }

        int shorten(int n) {
            if (n < 0 || n > length) {
                return NONE;
            }
            length = n;
            return n;
        }

        int size() {
            return length;
        }

        void rewind() {
            tokenStop = 0;
            advance();
        }

        void advance() {
            tokenStart = tokenStop;
            while (tokenStart < length && bytes[tokenStart] == BLANK) {
                tokenStart++;
            }
            tokenKind = kindAt(tokenStart);
            tokenStop = tokenKind == STOP ? tokenStart : tokenStart + 1;
            boolean isRun = tokenKind == LETTERS || tokenKind == DIGITS;
            while (isRun && tokenStop < length && kindAt(tokenStop) == tokenKind) {
                tokenStop++;
            }
        }

        int kind() {
            return tokenKind;
        }

        int place() {
            return tokenStart;
        }

        boolean reads(String word) {
            if (tokenStop - tokenStart != word.length()) {
                return false;
            }
            for (int i = 0; i < word.length(); i++) {
                if (bytes[tokenStart + i] != word.charAt(i)) {
                    return false;
                }
            }
            return true;
        }

        int number() {
            int value = 0;
            for (int i = tokenStart; i < tokenStop; i++) {
                value = Math.min(value * 10 + bytes[i] - '0', HUGE);
            }
            return value;
        }

        private int kindAt(int at) {
            if (at >= length) {
                return STOP;
            }
            int one = bytes[at];
            if ((one >= 'a' && one <= 'z') || (one >= 'A' && one <= 'Z')) {
                return LETTERS;
            }
            if (one >= '0' && one <= '9') {
                return DIGITS;
            }
            return one == ';' ? SEMICOLON : NO_TOKEN;
        }
    }

    /** The house: its terms, what it has got, and the fault of the latest text read. */
    private static final class House {
        static final int WINE = 0;
        static final int MOST = 1;
        static final int DEPOSIT = 2;
        private static final int WORDS = 3;

        private static final int[] HIGHEST = {200, 100, 100};
        private static final int[] WITHOUT = {25, 3, 0};

        private static final int NO_FAULT = 0;
        private static final int MISPLACED = 1;
        private static final int SECOND_TIME = 2;
        private static final int NOT_TOLD = 3;

        private final int[] terms;
        // what the text being read tells so far: a faulty text must leave the terms alone
        private final int[] draft;
        private int earned;
        private int faultKind;
        private int faultPlace;

        House() {
            terms = Arrays.copyOf(WITHOUT, WORDS);
            draft = new int[WORDS];
            earned = 0;
            faultKind = NONE;
            faultPlace = NONE;
        }

        int read(Tape tape) {
            Arrays.fill(draft, NONE);
            faultKind = NO_FAULT;
            faultPlace = NONE;
            tape.rewind();
            int clauses = 0;
            // a clause more than there are words always ends in a fault
            while (clauses <= WORDS && tape.kind() != Tape.STOP) {
                faultKind = readClause(tape);
                if (faultKind != NO_FAULT) {
                    faultPlace = tape.place();
                    return NONE;
                }
                clauses++;
                tape.advance();
            }
            acceptDraft();
            return clauses;
        }

        int faultKind() {
            return faultKind;
        }

        int faultPlace() {
            return faultPlace;
        }

        int term(int word) {
            return terms[word];
        }

        int wineOf(int now) {
            return Math.min(now * terms[WINE] / 1000, terms[MOST]);
        }

        int depositOf(int now) {
            return now * terms[DEPOSIT] / 100;
        }

        void earn(int coins) {
            earned += coins;
        }

        int earned() {
            return earned;
        }

        // leaves the tape at the clause's last token, or at the one that has the fault
        private int readClause(Tape tape) {
            int word = wordAt(tape);
            if (word == NONE) {
                return MISPLACED;
            }
            if (draft[word] != NONE) {
                return SECOND_TIME;
            }
            tape.advance();
            if (tape.kind() != Tape.DIGITS) {
                return MISPLACED;
            }
            int value = tape.number();
            if (value > HIGHEST[word]) {
                return NOT_TOLD;
            }
            draft[word] = value;
            tape.advance();
            return tape.kind() == Tape.SEMICOLON ? NO_FAULT : MISPLACED;
        }

        private static int wordAt(Tape tape) {
            if (tape.kind() != Tape.LETTERS) {
                return NONE;
            }
            if (tape.reads("wine")) {
                return WINE;
            }
            if (tape.reads("most")) {
                return MOST;
            }
            return tape.reads("deposit") ? DEPOSIT : NONE;
        }

        private void acceptDraft() {
            for (int word = 0; word < WORDS; word++) {
                terms[word] = draft[word] == NONE ? WITHOUT[word] : draft[word];
            }
        }
    }

    /** The papers in the order they were told. */
    private static final class Papers {
        static final int SELLER = 0;
        static final int BUYER = 1;
        static final int BULB = 2;
        static final int PRICE = 3;
        static final int DUE = 4;
        static final int DEPOSIT = 5;
        static final int WINE = 6;
        static final int MONTH = 7;
        static final int ORIGIN = 8;
        static final int CHAIN = 9;
        static final int OWED = 10;
        static final int FACTS = 11;

        static final int LIMIT = 40;
        static final int DEAREST = 10;

        // one row for all papers, FACTS numbers each, in the order that paperOf counts them
        private final int[] facts;
        private int count;

        Papers() {
            facts = new int[LIMIT * FACTS];
            count = 0;
        }

        /** Only for a list that is not full. */
        int tell(int seller, int buyer, int bulb, int price, int month) {
            int origin = latestBought(seller, bulb);
            write(count, SELLER, seller);
            write(count, BUYER, buyer);
            write(count, BULB, bulb);
            write(count, PRICE, price);
            write(count, MONTH, month);
            write(count, ORIGIN, origin);
            write(count, CHAIN, origin == NONE ? 1 : fact(origin, CHAIN) + 1);
            count++;
            return count - 1;
        }

        void setMoney(int paper, int due, int deposit, int wine) {
            write(paper, DUE, due);
            write(paper, DEPOSIT, deposit);
            write(paper, WINE, wine);
            write(paper, OWED, Math.max(due - deposit, 0));
        }

        int fact(int paper, int what) {
            return facts[paper * FACTS + what];
        }

        boolean has(int paper) {
            return paper >= 0 && paper < count;
        }

        boolean isFull() {
            return count >= LIMIT;
        }

        int size() {
            return count;
        }

        /** How many papers of a bulb have this person on this side (SELLER, BUYER). */
        int countOf(int side, int person, int bulb) {
            int papers = 0;
            for (int paper = 0; paper < count; paper++) {
                if (fact(paper, side) == person && fact(paper, BULB) == bulb) {
                    papers++;
                }
            }
            return papers;
        }

        private int latestBought(int person, int bulb) {
            for (int paper = count - 1; paper >= 0; paper--) {
                if (fact(paper, BUYER) == person && fact(paper, BULB) == bulb) {
                    return paper;
                }
            }
            return NONE;
        }

        private void write(int paper, int what, int value) {
            facts[paper * FACTS + what] = value;
        }
    }

    /** The ways of spring. */
    private static final class Reckoning {
        static final int DECREE = 3;
        static final int WHOLE = 100;
        private static final int NOBODY_PAYS = 0;
        private static final int ALL_PAY = 1;

        // a round empties a paper (at most 40 do) or ends a shortfall (at most 9 at first, and one
        // more for each paper emptied), so fewer than a hundred are ever needed
        private static final int ROUNDS = 1000;

        // of each paper what is paid as far as all can, kept since only a new paper changes it
        private final int[] settled;
        private final int[] rests;

        Reckoning() {
            settled = new int[Papers.LIMIT];
            rests = new int[Persons.LIMIT];
        }

        static boolean isWay(int way, int p) {
            return (way >= NOBODY_PAYS && way < DECREE) || (way == DECREE && p >= 0 && p <= WHOLE);
        }

        int share(Papers papers, int paper, int way, int p) {
            switch (way) {
                case NOBODY_PAYS: return 0;
                case ALL_PAY: return papers.fact(paper, Papers.OWED);
                case DECREE: return papers.fact(paper, Papers.OWED) * p / WHOLE;
                default: return settled[paper];
            }
        }

        int together(Papers papers, int way, int p) {
            int sum = 0;
            for (int paper = 0; paper < papers.size(); paper++) {
                sum += share(papers, paper, way, p);
            }
            return sum;
        }

        /** Reckons for everybody what restOf answers. */
        void spread(Papers papers, Persons persons, int way, int p) {
            for (int person = 0; person < persons.size(); person++) {
                rests[person] = persons.coins(person);
            }
            for (int paper = 0; paper < papers.size(); paper++) {
                int coins = share(papers, paper, way, p);
                rests[papers.fact(paper, Papers.SELLER)] += coins;
                rests[papers.fact(paper, Papers.BUYER)] -= coins;
            }
        }

        int restOf(int person) {
            return rests[person];
        }

        int firstShort(int persons) {
            for (int person = 0; person < persons; person++) {
                if (rests[person] < 0) {
                    return person;
                }
            }
            return NONE;
        }

        boolean isFailing(Papers papers, int person) {
            for (int paper = 0; paper < papers.size(); paper++) {
                if (papers.fact(paper, Papers.BUYER) == person
                        && settled[paper] < papers.fact(paper, Papers.OWED)) {
                    return true;
                }
            }
            return false;
        }

        /*
         * Begins with all paying and takes back only what can't be paid even so: what stands in
         * the end is the most that can be paid, while a start from nothing would stop below it
         * where persons pay one another in a ring.
         */
        void settle(Papers papers, Persons persons) {
            for (int paper = 0; paper < papers.size(); paper++) {
                settled[paper] = papers.fact(paper, Papers.OWED);
            }
            spread(papers, persons, ALL_PAY, 0);
            int debtor = firstShort(persons.size());
            for (int round = 0; round < ROUNDS && debtor != NONE; round++) {
                passOn(papers, debtor);
                debtor = firstShort(persons.size());
            }
        }

        /** Hands a shortfall on from buyer to seller until one can bear it, or a paper is empty. */
        private void passOn(Papers papers, int debtor) {
            int passed = 0;
            int at = debtor;
            for (int step = 0; step <= Persons.LIMIT && rests[at] < 0; step++) {
                if ((passed >> at & 1) == 1) {
                    emptyRing(papers, at);
                    return;
                }
                passed |= 1 << at;
                int paper = lastPaid(papers, at);
                if (paper == NONE) {
                    return;
                }
                takeBack(papers, paper, Math.min(settled[paper], -rests[at]));
                if (settled[paper] == 0) {
                    return;
                }
                at = papers.fact(paper, Papers.SELLER);
            }
        }

        /*
         * In a ring where nobody has a coin over, a shortfall would go round and round until a
         * paper is empty: it is brought there at once, as it may be one coin a round.
         */
        private void emptyRing(Papers papers, int start) {
            int least = leastInRing(papers, start);
            int at = start;
            for (int step = 0; step < Persons.LIMIT; step++) {
                int paper = lastPaid(papers, at);
                if (paper == NONE) {
                    return;
                }
                takeBack(papers, paper, least);
                at = papers.fact(paper, Papers.SELLER);
                if (at == start) {
                    return;
                }
            }
        }

        private int leastInRing(Papers papers, int start) {
            int least = Integer.MAX_VALUE;
            int at = start;
            for (int step = 0; step < Persons.LIMIT; step++) {
                int paper = lastPaid(papers, at);
                if (paper == NONE) {
                    return 0;
                }
                least = Math.min(least, settled[paper]);
                at = papers.fact(paper, Papers.SELLER);
                if (at == start) {
                    return least;
                }
            }
            return 0;
        }

        private void takeBack(Papers papers, int paper, int coins) {
            settled[paper] -= coins;
            rests[papers.fact(paper, Papers.BUYER)] += coins;
            rests[papers.fact(paper, Papers.SELLER)] -= coins;
        }

        private int lastPaid(Papers papers, int person) {
            for (int paper = papers.size() - 1; paper >= 0; paper--) {
                if (papers.fact(paper, Papers.BUYER) == person && settled[paper] > 0) {
                    return paper;
                }
            }
            return NONE;
        }
    }
}
