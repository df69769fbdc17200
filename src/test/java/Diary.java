import java.util.ArrayList;
import java.util.List;

/**
 * A palace as a diary: what was done is written down, and each answer is reckoned anew from all that is written,
 * by the plain words of the document. Numbers are told as they may be; what refuses numbers is tested elsewhere.
 */
final class Diary {
    private static final String[] WORDS = {"pack", "pay", "load", "snow", "cut", "bar"};
    private static final int[] WITHOUT = {0, 10, 3, 2};

    private record Lot(int kind, int foundry, int pieces, int v, int day) {
    }

    private record Piece(int lot, int bay, int place) {
    }

    private record Law(String text, int day) {
    }

    private record Work(int gang, int place, int bay, int day, int pieces) {
    }

    private record Row(int kind, int n, int day, int coin) {
    }

    int today;
    private final int[][] spans = new int[8][];
    private final List<Lot> lots = new ArrayList<>();
    private final int[] came = new int[60];
    private final int[] told = new int[60];
    private final int[] broken = new int[60];
    private final int[] sold = new int[60];
    private final List<Piece> standing = new ArrayList<>();
    private final int[] levels = new int[30];
    private final int[] trees = new int[30];
    private final int[] people = new int[30];
    private final int[] leadsTo = new int[30];
    private final int[] rain = new int[24];
    private final List<Law> laws = new ArrayList<>();
    private final List<int[]> gangs = new ArrayList<>();
    private final List<Work> works = new ArrayList<>();
    private final List<Row> wanted = new ArrayList<>();
    private final List<Row> added = new ArrayList<>();
    private final int[] owner = new int[30];
    private final int[] gaveWay = new int[8];

    Diary() {
        for (int f = 0; f < 8; f++) {
            spans[f] = new int[] {7, 14};
        }
        java.util.Arrays.fill(owner, -1);
    }

    // ---- the site, lots

    int lots() {
        return lots.size();
    }

    int gangs() {
        return gangs.size();
    }

    int additions() {
        return added.size();
    }

    int pass(int n) {
        if (today + n > 399) {
            return -2;
        }
        today += n;
        return today;
    }

    int bay(int bay, int what, int n) {
        for (Piece piece : standing) {
            if (piece.bay == bay) {
                return -3;
            }
        }
        int[] row = what == 0 ? levels : trees;
        int was = row[bay];
        row[bay] = n;
        return was;
    }

    int foundry(int foundry, int least, int latest) {
        spans[foundry] = new int[] {least, latest};
        return 1;
    }

    int order(int kind, int foundry, int pieces, int v) {
        if (lots.size() == 60) {
            return -4;
        }
        came[lots.size()] = -5;
        lots.add(new Lot(kind, foundry, pieces, v, today));
        return lots.size() - 1;
    }

    int come(int lot, int day) {
        if (day < lots.get(lot).day || day > today) {
            return -2;
        }
        if (came[lot] != -5) {
            return -3;
        }
        came[lot] = day;
        told[lot] = today;
        return 1;
    }

    int of(int lot, int what) {
        Lot asked = lots.get(lot);
        int[] row = {asked.kind, asked.foundry, asked.pieces, asked.v, asked.day, came[lot], stock(lot),
            barred(lot) ? 1 : 0, asked.pieces * number(1, asked.day)};
        return row[what];
    }

    private int stock(int lot) {
        if (came[lot] == -5) {
            return 0;
        }
        int stock = lots.get(lot).pieces - broken[lot] - sold[lot];
        for (Piece piece : standing) {
            stock -= piece.lot == lot ? 1 : 0;
        }
        return stock;
    }

    private boolean barred(int lot) {
        Lot asked = lots.get(lot);
        if (force(5, today, asked.foundry) == 1) {
            return true;
        }
        for (int k = 0; k < lots.size(); k++) {
            Lot other = lots.get(k);
            if (broken[k] > 0 && other.kind == asked.kind && other.foundry == asked.foundry && other.day == asked.day) {
                return true;
            }
        }
        return false;
    }

    int tried(int lot, int load) {
        if (stock(lot) == 0) {
            return -3;
        }
        if (load > (lots.get(lot).kind == 2 ? lots.get(lot).v : 100)) {
            broken[lot]++;
            return 0;
        }
        return 1;
    }

    int sell(int lot, int n) {
        if (n > stock(lot)) {
            return -3;
        }
        sold[lot] += n;
        return stock(lot);
    }

    // ---- bays

    private int placeOf(int lot) {
        return lots.get(lot).kind == 6 ? 1 : lots.get(lot).kind;
    }

    private int pieces(int bay, int place) {
        int n = 0;
        for (Piece piece : standing) {
            n += piece.bay == bay && piece.place == place ? 1 : 0;
        }
        return n;
    }

    private Piece latest(int bay, int place) {
        Piece latest = null;
        for (Piece piece : standing) {
            latest = piece.bay == bay && piece.place == place ? piece : latest;
        }
        return latest;
    }

    int wants(int bay) {
        return 100 - levels[bay] - levels[bay];
    }

    int fit(int lot, int bay) {
        int place = placeOf(lot);
        if (stock(lot) == 0) {
            return 0;
        }
        if (barred(lot)) {
            return -2;
        }
        if (place == 0) {
            return -3;
        }
        if (pieces(bay, place) == (place == 3 ? 24 : 1)) {
            return -4;
        }
        if (place == 1 && (lots.get(lot).v > wants(bay) || lots.get(lot).v + force(0, today, 0) < wants(bay))) {
            return -5;
        }
        if (place == 1 && trees[bay] != 0) {
            return -6;
        }
        boolean columns = pieces(bay, 1) == 1 && (bay % 6 == 5 || pieces(bay + 1, 1) == 1);
        boolean girder = pieces(bay, 2) == 1;
        return place == 2 && !columns || (place == 3 || place == 4) && !girder ? -7 : 1;
    }

    int set(int lot, int bay) {
        if (fit(lot, bay) != 1) {
            return -3;
        }
        standing.add(new Piece(lot, bay, placeOf(lot)));
        if (placeOf(lot) == 4) {
            leadsTo[bay] = -1;
        }
        return 1;
    }

    int at(int bay, int place) {
        if (place == 3) {
            return pieces(bay, 3);
        }
        return latest(bay, place) == null ? -5 : latest(bay, place).lot;
    }

    int down(int bay, int place) {
        Piece piece = latest(bay, place);
        if (piece == null || needed(standing, bay, place)) {
            return -3;
        }
        standing.remove(standing.lastIndexOf(piece));
        return piece.lot;
    }

    private static boolean needed(List<Piece> pieces, int bay, int place) {
        for (Piece piece : pieces) {
            boolean under = place == 1 && piece.place == 2
                && (piece.bay == bay || piece.bay == bay - 1 && bay % 6 > 0);
            if (under || place == 2 && piece.bay == bay && (piece.place == 3 || piece.place == 4)) {
                return true;
            }
        }
        return false;
    }

    int cut(int bay) {
        if (trees[bay] == 0 || force(4, today, bay) == 0) {
            return -3;
        }
        int feet = trees[bay];
        trees[bay] = 0;
        return feet;
    }

    // ---- the law

    int law(String text, int day) {
        if (laws.size() == 10) {
            return -4;
        }
        laws.add(new Law(text, day));
        return laws.size() - 1;
    }

    int why(int word, int day) {
        int why = -5;
        int greatest = -1;
        for (int k = 0; k < laws.size(); k++) {
            String[] clauses = laws.get(k).text.split(";");
            for (int c = 0; c < clauses.length; c++) {
                int from = laws.get(k).day;
                if (clauses[c].startsWith(WORDS[word]) && from <= day && from >= greatest) {
                    why = 100 * k + c;
                    greatest = from;
                }
            }
        }
        return why;
    }

    private int number(int word, int day) {
        int why = why(word, day);
        return why == -5 ? WITHOUT[word] : Integer.parseInt(condition(why));
    }

    private String condition(int why) {
        String clause = laws.get(why / 100).text.split(";")[why % 100];
        return clause.substring(clause.indexOf(' ') + 1);
    }

    int force(int word, int day, int which) {
        if (word < 4) {
            return number(word, day);
        }
        int why = why(word, day);
        if (why == -5) {
            return 0;
        }
        int[] letters = word == 4 ? new int[] {trees[which], levels[which], which % 6, which / 6, day % 7, 0}
            : new int[] {0, 0, 0, 0, day % 7, which};
        return new Condition(condition(why), letters).either() ? 1 : 0;
    }

    /** A condition that is read and reckoned at once. */
    private static final class Condition {
        private final String text;
        private final int[] letters;
        private int p;

        Condition(String text, int[] letters) {
            this.text = text + " ";
            this.letters = letters;
        }

        boolean either() {
            boolean one = both();
            while (text.charAt(p) == '|') {
                p++;
                one |= both();
            }
            return one;
        }

        private boolean both() {
            boolean all = one();
            while (text.charAt(p) == '&') {
                p++;
                all &= one();
            }
            return all;
        }

        private boolean one() {
            char sign = text.charAt(p++);
            if (sign == '!') {
                return !one();
            }
            if (sign == '(') {
                boolean inside = either();
                p++;
                return inside;
            }
            char relation = text.charAt(p++);
            int start = p;
            while (Character.isDigit(text.charAt(p))) {
                p++;
            }
            int number = Integer.parseInt(text.substring(start, p));
            int value = letters["tlcrdf".indexOf(sign)];
            return relation == '<' ? value < number : relation == '=' ? value == number : value > number;
        }
    }

    // ---- loads, rain

    int people(int bay, int n) {
        int were = people[bay];
        people[bay] = n;
        return were;
    }

    private int load(int bay) {
        return pieces(bay, 2) * (number(2, today) * people[bay] + number(3, today) * pieces(bay, 3));
    }

    int bears(int bay, int what) {
        Piece piece = latest(bay, 2 - what % 2);
        if (piece == null) {
            return -5;
        }
        int v = lots.get(piece.lot).v;
        int onColumn = load(bay) + (bay % 6 == 0 ? 0 : load(bay - 1));
        switch (what) {
            case 0: return load(bay);
            case 1: return onColumn;
            case 2: return load(bay) > v ? 0 : 1;
            default: return onColumn > 600 - 3 * v ? 0 : 1;
        }
    }

    int breaks() {
        int bits = 0;
        for (int b = 0; b < 30; b++) {
            bits |= bears(b, 2) == 0 || bears(b, 3) == 0 ? 1 << b : 0;
        }
        return bits;
    }

    int rain(int hour, int n) {
        int was = rain[hour];
        rain[hour] = n;
        return was;
    }

    int leads(int bay, int to) {
        if (to != -1 && !beside(bay, to)) {
            return -2;
        }
        if (pieces(bay, 4) == 0) {
            return -3;
        }
        leadsTo[bay] = to;
        return 1;
    }

    private static boolean beside(int bay, int other) {
        boolean inRow = bay / 6 == other / 6 && (bay + 1 == other || other + 1 == bay);
        return inRow || bay + 6 == other || other + 6 == bay;
    }

    /** Behind the hour: what stands in the BAY, and what its GUTTER took. */
    private int[][] water(int hour) {
        int[][] water = new int[30][2];
        int[][] ahead = hour == 0 ? new int[30][2] : water(hour - 1);
        for (int b = 0; b < 30; b++) {
            if (pieces(b, 3) > 0) {
                int stands = ahead[b][0] + rain[hour] * pieces(b, 3) / 8;
                for (int from = 0; from < 30; from++) {
                    stands += leadsTo[from] == b ? ahead[from][1] : 0;
                }
                int most = pieces(b, 4) == 0 ? 0 : lots.get(latest(b, 4).lot).v;
                int taken = stands < most ? stands : most;
                water[b] = new int[] {stands - taken, taken};
            }
        }
        return water;
    }

    int stands(int bay, int hour) {
        return water(hour)[bay][0];
    }

    int leaks(int bay) {
        int leaks = 0;
        for (int hour = 0; hour < 24; hour++) {
            int[][] water = water(hour);
            for (int b = 0; b < 30; b++) {
                leaks += (bay == -1 || bay == b) && water[b][0] > 50 ? water[b][0] - 50 : 0;
            }
        }
        return leaks;
    }

    // ---- gangs, days

    int gang(int place, int pace) {
        if (gangs.size() == 10) {
            return -4;
        }
        gangs.add(new int[] {place, pace});
        return gangs.size() - 1;
    }

    int pace(int gang) {
        int set = 0;
        for (Work work : works) {
            set += work.gang == gang ? work.pieces : 0;
        }
        return Math.min(20, gangs.get(gang)[1] + set / 10);
    }

    int work(int gang, int bay, int lot) {
        int place = gangs.get(gang)[0];
        if (placeOf(lot) != place) {
            return -12;
        }
        for (Work work : works) {
            boolean there = work.gang == gang || work.bay == bay;
            boolean girders = beside(work.bay, bay) && (place == 2 || work.place == 2);
            if (work.day == today && (there || girders)) {
                return -3;
            }
        }
        if (fit(lot, bay) != 1) {
            return fit(lot, bay);
        }
        int most = pace(gang);
        int pieces = 0;
        while (pieces < most && set(lot, bay) == 1) {
            pieces++;
        }
        works.add(new Work(gang, place, bay, today, pieces));
        return pieces;
    }

    int want(int kind, int n, int day) {
        if (wanted.size() == 20) {
            return -4;
        }
        wanted.add(new Row(kind, n, day, 0));
        return wanted.size();
    }

    int ahead(int kind, int day, boolean latest) {
        int pieces = 0;
        for (int k = 0; k < lots.size(); k++) {
            Lot lot = lots.get(k);
            int on = came[k] == -5 ? lot.day + spans[lot.foundry][latest ? 1 : 0] : came[k];
            pieces += lot.kind == kind && on <= day ? lot.pieces : 0;
        }
        return pieces;
    }

    /** DAY by DAY, KIND by KIND: 10 times the DAY, and the KIND; -5 without. */
    private int firstLack(int set, boolean latest) {
        for (int day = 0; day < 400; day++) {
            for (int kind = 1; kind <= 5; kind++) {
                int spare = ahead(kind, day, latest);
                for (Row row : wanted) {
                    spare -= row.kind == kind && row.day <= day ? row.n : 0;
                }
                for (int k = 0; k < added.size(); k++) {
                    Row row = added.get(k);
                    spare += (set >> k & 1) == 1 && row.kind == kind && row.day <= day ? row.n : 0;
                }
                if (spare < 0) {
                    return 10 * day + kind;
                }
            }
        }
        return -5;
    }

    int lack(int set, int what, boolean latest) {
        int first = firstLack(set, latest);
        return first == -5 ? -5 : what == 0 ? first / 10 : first % 10;
    }

    int more(int kind, int n, int day, int coin) {
        if (added.size() == 8) {
            return -4;
        }
        added.add(new Row(kind, n, day, coin));
        return added.size() - 1;
    }

    int best() {
        int best = -5;
        for (int set = (1 << added.size()) - 1; set >= 0; set--) {
            boolean better = best == -5 || coin(set) < coin(best)
                || coin(set) == coin(best) && Integer.bitCount(set) <= Integer.bitCount(best);
            best = better && firstLack(set, true) == -5 ? set : best;
        }
        return best;
    }

    private int coin(int set) {
        int coin = 0;
        for (int k = 0; k < added.size(); k++) {
            coin += (set >> k & 1) * added.get(k).coin;
        }
        return coin;
    }

    // ---- nations, down, the book

    int let(int nation, int n) {
        lose(nation);
        int first = -1;
        int fewest = 9;
        for (int b = 0; b < 30; b++) {
            if (b / 6 == (b + n - 1) / 6) {
                int others = Integer.bitCount(owners(b, n));
                first = others < fewest ? b : first;
                fewest = Math.min(others, fewest);
            }
        }
        for (int other = 0; other < 8; other++) {
            if ((owners(first, n) >> other & 1) == 1) {
                gaveWay[other]++;
                lose(other);
            }
        }
        java.util.Arrays.fill(owner, first, first + n, nation);
        return first;
    }

    private int owners(int first, int n) {
        int bits = 0;
        for (int b = first; b < first + n; b++) {
            bits |= owner[b] < 0 ? 0 : 1 << owner[b];
        }
        return bits;
    }

    private void lose(int nation) {
        for (int b = 0; b < 30; b++) {
            owner[b] = owner[b] == nation ? -1 : owner[b];
        }
    }

    int nation(int nation, int what) {
        int first = -5;
        int bays = 0;
        for (int b = 29; b >= 0; b--) {
            if (owner[b] == nation) {
                first = b;
                bays++;
            }
        }
        return what == 0 ? first : what == 1 ? bays : gaveWay[nation];
    }

    int unbuild(int i) {
        List<Piece> left = new ArrayList<>(standing);
        int steps = 0;
        while (!left.isEmpty()) {
            Piece next = null;
            for (Piece piece : left) {
                boolean ahead = next == null || piece.bay < next.bay || piece.bay == next.bay && piece.place > next.place;
                next = ahead && !needed(left, piece.bay, piece.place) ? piece : next;
            }
            if (steps == i) {
                return 10 * next.bay + next.place;
            }
            Piece taken = next;
            left.removeIf(piece -> piece.bay == taken.bay && piece.place == taken.place);
            steps++;
        }
        return i == -1 ? steps : -1;
    }

    int known(int day, boolean there) {
        int known = 0;
        for (int k = 0; k < lots.size(); k++) {
            known += came[k] != -5 && (there ? came[k] : told[k]) <= day ? 1 : 0;
        }
        return known;
    }

    int count(int what) {
        int all = 0;
        for (int lot = 0; lot < 60; lot++) {
            all += broken[lot];
        }
        int[] counts = {today, lots.size(), laws.size(), 0, gangs.size(), wanted.size(), added.size(),
            standing.size(), all, 0};
        return counts[what];
    }
}
