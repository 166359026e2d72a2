import java.util.ArrayList;
import java.util.HashMap;
import java.util.List;
import java.util.Map;

/** The document told again, as slowly and as plainly as can be, to hold the class against. */
final class Model {
    private record Bulb(int planter, int sort, int weight, int month) {
    }

    private record Paper(int seller, int buyer, int bulb, int price, int due, int deposit, int wine, int month) {
        int owed() {
            return Math.max(0, due - deposit);
        }
    }

    private final List<Integer> purses = new ArrayList<>();
    private final int[][] growths = new int[5][7];
    private final List<Bulb> bulbs = new ArrayList<>();
    private final List<Paper> papers = new ArrayList<>();
    private int clock = 0;
    private String tape = "";
    private Map<String, Integer> terms = new HashMap<>();
    private int got = 0;
    private int fault = -1;
    private int place = -1;

    Model() {
        for (int[] row : growths) {
            java.util.Arrays.fill(row, 10);
        }
    }

    private static boolean in(int value, int from, int to) {
        return from <= value && value <= to;
    }

    int person(int purse) {
        if (!in(purse, 0, 100000) || purses.size() == 10) {
            return -1;
        }
        purses.add(purse);
        return purses.size() - 1;
    }

    boolean growth(int sort, int month, int v) {
        if (!in(sort, 0, 4) || !in(month, 0, 6) || !in(v, 0, 20) || !bulbs.isEmpty()) {
            return false;
        }
        growths[sort][month] = v;
        return true;
    }

    int bulb(int planter, int sort, int weight) {
        if (!isPerson(planter) || !in(sort, 0, 4) || !in(weight, 1, 200) || clock == 7 || bulbs.size() == 12) {
            return -1;
        }
        bulbs.add(new Bulb(planter, sort, weight, clock));
        return bulbs.size() - 1;
    }

    int month() {
        return clock == 7 ? -1 : ++clock;
    }

    int weight(int bulb, int month) {
        if (!isBulb(bulb)) {
            return -1;
        }
        Bulb b = bulbs.get(bulb);
        if (!in(month, b.month, 7)) {
            return -1;
        }
        return month == b.month ? b.weight : weight(bulb, month - 1) * (100 + growths[b.sort][month - 1]) / 100;
    }

    int feed(int... fives) {
        if (tape.length() + 20 > 120) {
            return -1;
        }
        for (int i : fives) {
            tape += "" + (char) (i >>> 24) + (char) (i >>> 16 & 255) + (char) (i >>> 8 & 255) + (char) (i & 255);
        }
        return tape.length();
    }

    int end(int n) {
        if (!in(n, 0, tape.length())) {
            return -1;
        }
        tape = tape.substring(0, n);
        return n;
    }

    int house() {
        String text = tape;
        tape = "";
        Map<String, Integer> told = new HashMap<>();
        String word = null;
        int state = 0;
        int at = 0;
        while (true) {
            while (at < text.length() && text.charAt(at) == ' ') {
                at++;
            }
            String token = tokenAt(text, at);
            if (token.isEmpty() && at == text.length() && state == 0) {
                terms = told;
                fault = 0;
                place = -1;
                return told.size();
            }
            int bad = faultOf(token, state, word, told);
            if (bad != 0) {
                fault = bad;
                place = at;
                return -1;
            }
            if (state == 0) {
                word = token;
            } else if (state == 1) {
                told.put(word, new java.math.BigInteger(token).intValue());
            }
            state = (state + 1) % 3;
            at += token.length();
        }
    }

    private static String tokenAt(String text, int at) {
        java.util.regex.Matcher m = java.util.regex.Pattern.compile("[a-zA-Z]+|[0-9]+|;").matcher(text);
        return m.region(at, text.length()).lookingAt() ? m.group() : "";
    }

    private static int faultOf(String token, int state, String word, Map<String, Integer> told) {
        if (state == 0) {
            if (!List.of("wine", "most", "deposit").contains(token)) {
                return 1;
            }
            return told.containsKey(token) ? 2 : 0;
        }
        if (state == 2) {
            return token.equals(";") ? 0 : 1;
        }
        if (token.isEmpty() || !Character.isDigit(token.charAt(0))) {
            return 1;
        }
        int top = word.equals("wine") ? 200 : 100;
        return new java.math.BigInteger(token).compareTo(java.math.BigInteger.valueOf(top)) > 0 ? 3 : 0;
    }

    int fault(int what) {
        return what == 0 ? fault : what == 1 ? place : -1;
    }

    int paper(int seller, int buyer, int bulb, int price) {
        if (!isPerson(seller) || !isPerson(buyer) || seller == buyer || !isBulb(bulb) || !in(price, 1, 10)
                || papers.size() == 40 || holdings(seller, bulb) == 0) {
            return -1;
        }
        int now = price * weight(bulb, clock);
        int wine = Math.min(now * about(4) / 1000, about(5));
        int deposit = now * about(6) / 100;
        if (purses.get(buyer) < wine + deposit) {
            return -1;
        }
        purses.set(buyer, purses.get(buyer) - wine - deposit);
        purses.set(seller, purses.get(seller) + deposit);
        got += wine;
        papers.add(new Paper(seller, buyer, bulb, price, price * weight(bulb, 7), deposit, wine, clock));
        return papers.size() - 1;
    }

    private int holdings(int person, int bulb) {
        int count = bulbs.get(bulb).planter == person ? 1 : 0;
        for (Paper p : papers) {
            count += p.bulb == bulb && p.buyer == person ? 1 : 0;
        }
        return count;
    }

    private int from(int paper) {
        int from = -1;
        for (int i = 0; i < paper; i++) {
            if (papers.get(i).bulb == papers.get(paper).bulb && papers.get(i).buyer == papers.get(paper).seller) {
                from = i;
            }
        }
        return from;
    }

    private int chain(int paper) {
        return paper == -1 ? 0 : 1 + chain(from(paper));
    }

    int paperOf(int paper, int what) {
        if (!isPaper(paper) || !in(what, 0, 10)) {
            return -1;
        }
        Paper p = papers.get(paper);
        int[] facts = {p.seller, p.buyer, p.bulb, p.price, p.due, p.deposit, p.wine, p.month,
            from(paper), chain(paper), p.owed()};
        return facts[what];
    }

    int holds(int person, int bulb) {
        if (!isPerson(person) || !isBulb(bulb)) {
            return -1000;
        }
        int count = holdings(person, bulb);
        for (Paper p : papers) {
            count -= p.bulb == bulb && p.seller == person ? 1 : 0;
        }
        return count;
    }

    int doubles() {
        int count = 0;
        for (int person = 0; person < purses.size(); person++) {
            for (int bulb = 0; bulb < bulbs.size(); bulb++) {
                count += holds(person, bulb) < 0 ? 1 : 0;
            }
        }
        return count;
    }

    int purse(int person) {
        return isPerson(person) ? purses.get(person) : -1;
    }

    int left(int person, int way, int p) {
        if (!isPerson(person) || !isWay(way, p)) {
            return -2000000000;
        }
        int[] row = payments(way, p);
        int left = purses.get(person);
        for (int i = 0; i < row.length; i++) {
            left += papers.get(i).seller == person ? row[i] : 0;
            left -= papers.get(i).buyer == person ? row[i] : 0;
        }
        return left;
    }

    int paid(int paper, int way, int p) {
        return isPaper(paper) && isWay(way, p) ? payments(way, p)[paper] : -1;
    }

    int all(int way, int p) {
        return isWay(way, p) ? java.util.Arrays.stream(payments(way, p)).sum() : -1;
    }

    int fails(int person) {
        if (!isPerson(person)) {
            return -1;
        }
        int[] row = payments(2, 0);
        for (int i = 0; i < row.length; i++) {
            if (papers.get(i).buyer == person && row[i] < papers.get(i).owed()) {
                return 1;
            }
        }
        return 0;
    }

    int hurts() {
        for (int p = 0; p <= 100; p++) {
            for (int person = 0; person < purses.size(); person++) {
                if (left(person, 3, p) < 0) {
                    return p;
                }
            }
        }
        return -1;
    }

    int about(int what) {
        switch (what) {
            case 0: return purses.size();
            case 1: return bulbs.size();
            case 2: return papers.size();
            case 3: return clock;
            case 4: return terms.getOrDefault("wine", 25);
            case 5: return terms.getOrDefault("most", 3);
            case 6: return terms.getOrDefault("deposit", 0);
            case 7: return got;
            case 8: return tape.length();
            case 9: {
                int count = 0;
                for (int person = 0; person < purses.size(); person++) {
                    count += fails(person);
                }
                return count;
            }
            default: return -1;
        }
    }

    private int[] payments(int way, int p) {
        int[] row = new int[papers.size()];
        for (int i = 0; i < row.length; i++) {
            int owed = papers.get(i).owed();
            row[i] = way == 0 ? 0 : way == 3 ? owed * p / 100 : owed;
        }
        return way == 2 ? asFarAsTheyCan(row) : row;
    }

    /** Everybody pays anew out of what the others paid in the round before, until nothing changes. */
    private int[] asFarAsTheyCan(int[] all) {
        int[] row = all;
        while (true) {
            int[] coins = purses.stream().mapToInt(Integer::intValue).toArray();
            for (int i = 0; i < row.length; i++) {
                coins[papers.get(i).seller] += row[i];
            }
            int[] next = new int[row.length];
            for (int i = 0; i < row.length; i++) {
                int buyer = papers.get(i).buyer;
                next[i] = Math.min(papers.get(i).owed(), coins[buyer]);
                coins[buyer] -= next[i];
            }
            if (java.util.Arrays.equals(row, next)) {
                return row;
            }
            row = next;
        }
    }

    private boolean isPerson(int person) {
        return in(person, 0, purses.size() - 1);
    }

    private boolean isBulb(int bulb) {
        return in(bulb, 0, bulbs.size() - 1);
    }

    private boolean isPaper(int paper) {
        return in(paper, 0, papers.size() - 1);
    }

    private static boolean isWay(int way, int p) {
        return in(way, 0, 2) || way == 3 && in(p, 0, 100);
    }
}
