/**
 * A palace of glass in nine months: its site, lots, laws, loads, rain, gangs, days, nations and tapes.
 * The words in capitals in the comments are those of the document (shared/DOC.md).
 */
public final class GlassPalace {
    public static final int NONE = -1, BAD = -2, STATE = -3, FULL = -4;
    public static final long NO = Long.MIN_VALUE;

    private static final int ABSENT = -5;
    private static final int NOTHING = -11, CAST = -12, PLACE = -13, SIZE = -14;
    private static final int BAYS = 30, IN_ROW = 6, MOST_LEVEL = 20, MOST_TREE = 60, MOST_PEOPLE = 200;
    private static final int LAST_DAY = 399, WEEK = 7, MOST_PASSED = 50;
    private static final int FOUNDRIES = 8, MOST_SPAN = 60, MOST_LOTS = 60, MOST_NUMBER = 999;
    // A KIND bears the number of its PLACE, but for PART (no PLACE) and WRONG (a COLUMN's).
    private static final int PART = 0, COLUMN = 1, GIRDER = 2, PANE = 3, GUTTER = 4, ODD = 5, WRONG = 6;
    private static final int MOST_PANES = 24, MOST_TRIED = 2000, TRIED_OTHERS = 100;
    private static final int PACK = 0, PAY = 1, LOAD = 2, SNOW = 3, CUT = 4, BAR = 5, WORDS = 6;
    private static final int MOST_TEXTS = 10, MOST_CLAUSES = 8, MOST_BYTES = 100, MOST_AROUND = 4;
    private static final int HOURS = 24, MOST_RAIN = 99;
    private static final int MOST_GANGS = 10, MOST_PACE = 20;
    private static final int MOST_ROWS = 20, MOST_ADDITIONS = 8;
    private static final int NATIONS = 8;
    private static final int TAPES = 6, MOST_ITEMS = 60, MOST_PAIRS = 20;
    private static final int EMPTY = -1, BYTES = 0, SHORTS = 1, INTS = 2, LONGS = 3, BOOLEANS = 4;

    private int today;
    private final int[] leastDays = new int[FOUNDRIES];
    private final int[] latestDays = new int[FOUNDRIES];
    private final Lot[] lots = new Lot[MOST_LOTS];
    private int lotCount;
    private final Bay[] bays = new Bay[BAYS];
    private final Script script = new Script();
    private final Laws laws = new Laws();
    private final Water water = new Water();
    private final Gang[] gangs = new Gang[MOST_GANGS];
    private int gangCount;
    private final Plan plan = new Plan();
    private final Nations nations = new Nations();
    private final Acts acts = new Acts();
    private final Tape[] tapes = new Tape[TAPES];

    public GlassPalace() {
        for (int f = 0; f < FOUNDRIES; f++) {
            leastDays[f] = 7;
            latestDays[f] = 14;
        }
        for (int b = 0; b < BAYS; b++) {
            bays[b] = new Bay(b);
        }
        for (int t = 0; t < TAPES; t++) {
            tapes[t] = new Tape();
        }
    }

    // ---- the site, lots

    public int pass(int n) {
        if (n < 1 || n > MOST_PASSED || n > LAST_DAY - today) {
            return BAD;
        }
        today += n;
        return today;
    }

    public int bay(int bay, int what, int n) {
        Bay ground = bayOf(bay);
        if (ground == null || what < 0 || what > 1) {
            return NONE;
        }
        if (n < 0 || n > (what == 0 ? MOST_LEVEL : MOST_TREE)) {
            return BAD;
        }
        if (!ground.isBare()) {
            return STATE;
        }
        int was = what == 0 ? ground.level : ground.tree;
        if (what == 0) {
            ground.level = n;
        } else {
            ground.tree = n;
        }
        return was;
    }

    public int foundry(int foundry, int least, int latest) {
        if (!isFoundry(foundry)) {
            return NONE;
        }
        if (least < 1 || latest > MOST_SPAN || least > latest) {
            return BAD;
        }
        leastDays[foundry] = least;
        latestDays[foundry] = latest;
        return 1;
    }

    public int order(int kind, int foundry, int pieces, int v) {
        if (!isKind(kind) || !isFoundry(foundry)) {
            return NONE;
        }
        if (!isNumberOfPieces(pieces) || v < 0 || v > MOST_NUMBER) {
            return BAD;
        }
        if (lotCount >= MOST_LOTS) {
            return FULL;
        }
        lots[lotCount] = new Lot(lotCount, kind, foundry, pieces, v, today);
        lotCount++;
        return lotCount - 1;
    }

    public int come(int lot, int day) {
        Lot coming = lotOf(lot);
        if (coming == null) {
            return NONE;
        }
        if (day < coming.orderedOn || day > today) {
            return BAD;
        }
        if (coming.isTold()) {
            return STATE;
        }
        coming.cameOn = day;
        coming.toldOn = today;
        return 1;
    }

    public int of(int lot, int what) {
        Lot asked = lotOf(lot);
        if (asked == null) {
            return NONE;
        }
        switch (what) {
            case 0: return asked.kind;
            case 1: return asked.foundry;
            case 2: return asked.pieces;
            case 3: return asked.v;
            case 4: return asked.orderedOn;
            case 5: return asked.cameOn;
            case 6: return asked.stock();
            case 7: return isBarred(asked) ? 1 : 0;
            case 8: return asked.pieces * laws.numberFor(PAY, asked.orderedOn);
            default: return NONE;
        }
    }

    public int tried(int lot, int load) {
        Lot trial = lotOf(lot);
        if (trial == null) {
            return NONE;
        }
        if (load < 0 || load > MOST_TRIED) {
            return BAD;
        }
        if (trial.stock() < 1) {
            return STATE;
        }
        if (load <= (trial.kind == GIRDER ? trial.v : TRIED_OTHERS)) {
            return 1;
        }
        trial.broken++;
        return 0;
    }

    public int sell(int lot, int n) {
        Lot sale = lotOf(lot);
        if (sale == null) {
            return NONE;
        }
        if (!isNumberOfPieces(n)) {
            return BAD;
        }
        if (n > sale.stock()) {
            return STATE;
        }
        sale.sold += n;
        return sale.stock();
    }

    // ---- bays

    public int wants(int bay) {
        Bay asked = bayOf(bay);
        return asked == null ? NONE : asked.wantedLength();
    }

    public int fit(int lot, int bay) {
        Lot piece = lotOf(lot);
        Bay into = bayOf(bay);
        if (piece == null || into == null) {
            return NONE;
        }
        return hindrance(piece, into);
    }

    public int set(int lot, int bay) {
        Lot piece = lotOf(lot);
        Bay into = bayOf(bay);
        if (piece == null || into == null) {
            return NONE;
        }
        if (hindrance(piece, into) != 1) {
            return STATE;
        }
        into.put(piece);
        return 1;
    }

    public int at(int bay, int place) {
        Bay asked = bayOf(bay);
        if (asked == null || !isPlace(place)) {
            return NONE;
        }
        if (place == PANE) {
            return asked.panes;
        }
        Lot there = asked.latestAt(place);
        return there == null ? ABSENT : there.number;
    }

    public int down(int bay, int place) {
        Bay from = bayOf(bay);
        if (from == null || !isPlace(place)) {
            return NONE;
        }
        Lot piece = from.latestAt(place);
        if (piece == null || isNeeded(from, place)) {
            return STATE;
        }
        from.remove(piece);
        return piece.number;
    }

    public int cut(int bay) {
        Bay wood = bayOf(bay);
        if (wood == null) {
            return NONE;
        }
        if (wood.tree == 0 || !laws.mayCut(wood, today)) {
            return STATE;
        }
        int feet = wood.tree;
        wood.tree = 0;
        return feet;
    }

    // ---- the law

    public int feed(int bytes, int n) {
        if (n < 0 || n > 4) {
            return BAD;
        }
        if (n > MOST_BYTES - script.length) {
            return FULL;
        }
        for (int k = n - 1; k >= 0; k--) {
            script.append(bytes >> 8 * k & 255);
        }
        return script.length;
    }

    public int law(int day) {
        if (!isDay(day)) {
            return BAD;
        }
        Text next = laws.nextText();
        if (next == null) {
            return FULL;
        }
        int fault = script.readInto(next);
        script.length = 0;
        if (fault >= 0) {
            return -10 - fault;
        }
        next.from = day;
        laws.count++;
        return laws.count - 1;
    }

    public int force(int word, int day, int which) {
        Bay bay = bayOf(which);
        if (!isWord(word) || word == CUT && bay == null || word == BAR && !isFoundry(which)) {
            return NONE;
        }
        if (!isDay(day)) {
            return BAD;
        }
        if (word == BAR) {
            return laws.bars(which, day) ? 1 : 0;
        }
        if (word == CUT) {
            return bay != null && laws.mayCut(bay, day) ? 1 : 0;
        }
        return laws.numberFor(word, day);
    }

    public int why(int word, int day) {
        if (!isWord(word)) {
            return NONE;
        }
        if (!isDay(day)) {
            return BAD;
        }
        int index = laws.textFor(word, day);
        Text text = laws.textOf(index);
        return text == null ? ABSENT : 100 * index + text.lastClauseOf(word);
    }

    // ---- loads, rain

    public int people(int bay, int n) {
        Bay floor = bayOf(bay);
        if (floor == null) {
            return NONE;
        }
        if (n < 0 || n > MOST_PEOPLE) {
            return BAD;
        }
        int were = floor.people;
        floor.people = n;
        return were;
    }

    public int bears(int bay, int what) {
        Bay asked = bayOf(bay);
        if (asked == null || what < 0 || what > 3) {
            return NONE;
        }
        boolean ofGirder = what == 0 || what == 2;
        if (!asked.has(ofGirder ? GIRDER : COLUMN)) {
            return ABSENT;
        }
        switch (what) {
            case 0: return girderLoad(asked);
            case 1: return columnLoad(asked);
            case 2: return girderHolds(asked) ? 1 : 0;
            default: return columnHolds(asked) ? 1 : 0;
        }
    }

    public int breaks() {
        int bits = 0;
        for (Bay bay : bays) {
            if (!girderHolds(bay) || !columnHolds(bay)) {
                bits |= 1 << bay.number;
            }
        }
        return bits;
    }

    public int rain(int hour, int n) {
        if (!isHour(hour)) {
            return NONE;
        }
        if (n < 0 || n > MOST_RAIN) {
            return BAD;
        }
        int was = water.rain[hour];
        water.rain[hour] = n;
        return was;
    }

    public int leads(int bay, int to) {
        Bay roof = bayOf(bay);
        boolean intoColumn = to == -1;
        if (roof == null || !intoColumn && bayOf(to) == null) {
            return NONE;
        }
        if (!intoColumn && !isBeside(bay, to)) {
            return BAD;
        }
        if (!roof.has(GUTTER)) {
            return STATE;
        }
        roof.leadsTo = to;
        return 1;
    }

    public int stands(int bay, int hour) {
        if (!isBay(bay) || !isHour(hour)) {
            return NONE;
        }
        water.runThrough(bays, hour);
        return water.standing[bay];
    }

    public int leaks(int bay) {
        if (bay != -1 && !isBay(bay)) {
            return ABSENT;
        }
        water.runThrough(bays, HOURS - 1);
        return bay == -1 ? water.leaksOfAll() : water.leaks[bay];
    }

    // ---- gangs, days

    public int gang(int place, int pace) {
        if (place < COLUMN || place > GUTTER) {
            return NONE;
        }
        if (pace < 1 || pace > MOST_PACE) {
            return BAD;
        }
        if (gangCount >= MOST_GANGS) {
            return FULL;
        }
        gangs[gangCount] = new Gang(place, pace);
        gangCount++;
        return gangCount - 1;
    }

    public int work(int gang, int bay, int lot) {
        Gang crew = gangOf(gang);
        Bay into = bayOf(bay);
        Lot piece = lotOf(lot);
        if (crew == null || into == null || piece == null) {
            return NONE;
        }
        if (piece.place() != crew.place) {
            return CAST;
        }
        if (isKeptAway(crew, bay)) {
            return STATE;
        }
        int hindrance = hindrance(piece, into);
        if (hindrance != 1) {
            return hindrance;
        }
        int pieces = Math.min(crew.pieces(), Math.min(piece.stock(), into.room(crew.place)));
        for (int k = 0; k < pieces; k++) {
            into.put(piece);
        }
        crew.worked(today, bay, pieces);
        return pieces;
    }

    public int pace(int gang) {
        Gang crew = gangOf(gang);
        return crew == null ? NONE : crew.pieces();
    }

    public int want(int kind, int n, int day) {
        if (!isPlace(kind)) {
            return NONE;
        }
        if (!isNumberOfPieces(n) || !isDay(day)) {
            return BAD;
        }
        return plan.addRow(kind, n, day) ? plan.rows : FULL;
    }

    public int ahead(int kind, int day, boolean latest) {
        if (!isPlace(kind)) {
            return NONE;
        }
        return isDay(day) ? willHaveCome(kind, day, latest) : BAD;
    }

    public int lack(int set, int what, boolean latest) {
        if (what < 0 || what > 1) {
            return NONE;
        }
        if (set < 0 || set >= 1 << plan.additions) {
            return BAD;
        }
        lookAhead(latest);
        int row = plan.firstLack(set);
        if (row < 0 || row >= MOST_ROWS) {
            return ABSENT;
        }
        return what == 0 ? plan.days[row] : plan.kinds[row];
    }

    public int more(int kind, int n, int day, int coin) {
        if (!isPlace(kind)) {
            return NONE;
        }
        if (!isNumberOfPieces(n) || !isDay(day) || coin < 0 || coin > MOST_NUMBER) {
            return BAD;
        }
        return plan.addAddition(kind, n, day, coin) ? plan.additions - 1 : FULL;
    }

    public int best() {
        lookAhead(true);
        return plan.cheapestSet();
    }

    // ---- nations, down

    public int let(int nation, int n) {
        if (!isNation(nation)) {
            return NONE;
        }
        if (n < 1 || n > IN_ROW) {
            return BAD;
        }
        return nations.place(nation, n);
    }

    public int nation(int nation, int what) {
        if (!isNation(nation)) {
            return NONE;
        }
        switch (what) {
            case 0: return nations.sizes[nation] == 0 ? ABSENT : nations.firsts[nation];
            case 1: return nations.sizes[nation];
            case 2: return nations.givenWay[nation];
            default: return NONE;
        }
    }

    public int unbuild(int i) {
        int steps = 0;
        // BAY by BAY, the greatest PLACE first, is the order of DOWN: what needs a PIECE stands at a
        // greater PLACE of its BAY, or it is the GIRDER of the BAY ahead, and that one is down by then.
        for (Bay bay : bays) {
            for (int place = ODD; place >= COLUMN; place--) {
                if (bay.has(place)) {
                    if (steps == i) {
                        return 10 * bay.number + place;
                    }
                    steps++;
                }
            }
        }
        return i == -1 ? steps : NONE;
    }

    public int known(int day, boolean there) {
        if (!isDay(day)) {
            return BAD;
        }
        int known = 0;
        for (Lot lot : lots) {
            if (lot != null && lot.isTold() && (there ? lot.cameOn : lot.toldOn) <= day) {
                known++;
            }
        }
        return known;
    }

    // ---- acts, tapes

    public int act(int lot, int act, int x) {
        acts.ran = 0;
        Lot actor = lotOf(lot);
        return actor == null ? 0 : acts.perform(actor, act, x);
    }

    public int trace(int i) {
        return acts.bodyAt(i);
    }

    public int taken(int lot, int k) {
        if (!isKind(k)) {
            return BAD;
        }
        Lot asked = lotOf(lot);
        if (asked == null) {
            return NOTHING;
        }
        return asked.isUnder(k) ? asked.kind : CAST;
    }

    public long list(int tape, int i, int n) {
        Tape row = tapeOf(tape);
        if (row == null || n < 1 || n > MOST_PAIRS) {
            return NO;
        }
        if (row.sort != EMPTY && row.sort != INTS) {
            return NO + 1;
        }
        long answer = 0;
        for (int k = 0; k < n; k++) {
            long first = i + 2L * k;
            if (!row.hasItem(first) || !row.hasItem(first + 1)) {
                return answer + 1000000;
            }
            answer += agrees(row.itemAt(first), row.itemAt(first + 1)) ? 1000 : 1;
        }
        return answer;
    }

    public int count(int what) {
        switch (what) {
            case 0: return today;
            case 1: return lotCount;
            case 2: return laws.count;
            case 3: return script.length;
            case 4: return gangCount;
            case 5: return plan.rows;
            case 6: return plan.additions;
            case 7: return standingPieces();
            case 8: return brokenPieces();
            case 9: return acts.ran;
            default: return BAD;
        }
    }

    public int tape(int tape, int sort, int n) {
        Tape row = tapeOf(tape);
        if (row == null) {
            return NONE;
        }
        if (sort < EMPTY || sort > BOOLEANS || sort != EMPTY && n > MOST_ITEMS) {
            return BAD;
        }
        if (sort != EMPTY && n < 0) {
            return SIZE;
        }
        row.become(sort, sort == EMPTY ? 0 : n);
        return 1;
    }

    public int item(int tape, int i, long v) {
        Tape row = tapeOf(tape);
        if (row == null) {
            return NONE;
        }
        if (row.sort == EMPTY) {
            return NOTHING;
        }
        return row.put(i, v) ? 1 : PLACE;
    }

    public long read(int tape, int i) {
        Tape row = tapeOf(tape);
        return row == null || !row.hasItem(i) ? NO : row.itemAt(i);
    }

    public int shift(int tape, int i, int other, int j, int n) {
        Tape from = tapeOf(tape);
        Tape to = tapeOf(other);
        if (from == null || to == null) {
            return NONE;
        }
        if (from.sort == EMPTY || to.sort == EMPTY) {
            return NOTHING;
        }
        if (from.sort != to.sort) {
            return CAST;
        }
        if (!from.hasItems(i, n) || !to.hasItems(j, n)) {
            return PLACE;
        }
        System.arraycopy(from.items, i, to.items, j, n);
        return n;
    }

    // ---- numbers as told

    private static boolean isBay(int bay) {
        return bay >= 0 && bay < BAYS;
    }

    private static boolean isFoundry(int foundry) {
        return foundry >= 0 && foundry < FOUNDRIES;
    }

    private static boolean isDay(int day) {
        return day >= 0 && day <= LAST_DAY;
    }

    private static boolean isHour(int hour) {
        return hour >= 0 && hour < HOURS;
    }

    private static boolean isKind(int kind) {
        return kind >= PART && kind <= WRONG;
    }

    private static boolean isPlace(int place) {
        return place >= COLUMN && place <= ODD;
    }

    private static boolean isWord(int word) {
        return word >= PACK && word < WORDS;
    }

    private static boolean isNation(int nation) {
        return nation >= 0 && nation < NATIONS;
    }

    private static boolean isNumberOfPieces(int n) {
        return n >= 1 && n <= MOST_NUMBER;
    }

    private Bay bayOf(int bay) {
        return isBay(bay) ? bays[bay] : null;
    }

    private Lot lotOf(int lot) {
        return lot >= 0 && lot < MOST_LOTS ? lots[lot] : null;
    }

    private Gang gangOf(int gang) {
        return gang >= 0 && gang < MOST_GANGS ? gangs[gang] : null;
    }

    private Tape tapeOf(int tape) {
        return tape >= 0 && tape < TAPES ? tapes[tape] : null;
    }

    // ---- setting, bearing

    private static boolean isBeside(int bay, int other) {
        int columns = Math.abs(bay % IN_ROW - other % IN_ROW);
        int rows = Math.abs(bay / IN_ROW - other / IN_ROW);
        return columns + rows == 1;
    }

    private Bay rightOf(Bay bay) {
        return bay.column() == IN_ROW - 1 ? null : bayOf(bay.number + 1);
    }

    private Bay leftOf(Bay bay) {
        return bay.column() == 0 ? null : bayOf(bay.number - 1);
    }

    private boolean isBarred(Lot lot) {
        if (laws.bars(lot.foundry, today)) {
            return true;
        }
        for (Lot other : lots) {
            if (other != null && other.broken > 0 && other.isOrderedLike(lot)) {
                return true;
            }
        }
        return false;
    }

    /** 1, or the first that hinders a PIECE of the LOT, as fit() tells it. */
    private int hindrance(Lot lot, Bay bay) {
        int place = lot.place();
        if (lot.stock() < 1) {
            return 0;
        }
        if (isBarred(lot)) {
            return -2;
        }
        if (place == PART) {
            return -3;
        }
        if (bay.room(place) < 1) {
            return -4;
        }
        if (place == COLUMN && !hasLengthFor(bay, lot.v)) {
            return -5;
        }
        if (place == COLUMN && bay.tree > 0) {
            return -6;
        }
        return hasGroundFor(bay, place) ? 1 : -7;
    }

    private boolean hasLengthFor(Bay bay, int length) {
        int shorter = bay.wantedLength() - length;
        return shorter >= 0 && shorter <= laws.numberFor(PACK, today);
    }

    private boolean hasGroundFor(Bay bay, int place) {
        if (place == PANE || place == GUTTER) {
            return bay.has(GIRDER);
        }
        Bay right = rightOf(bay);
        return place != GIRDER || bay.has(COLUMN) && (right == null || right.has(COLUMN));
    }

    private boolean isNeeded(Bay bay, int place) {
        if (place == GIRDER) {
            return bay.has(PANE) || bay.has(GUTTER);
        }
        Bay left = leftOf(bay);
        return place == COLUMN && (bay.has(GIRDER) || left != null && left.has(GIRDER));
    }

    private int girderLoad(Bay bay) {
        if (!bay.has(GIRDER)) {
            return 0;
        }
        return laws.numberFor(LOAD, today) * bay.people + laws.numberFor(SNOW, today) * bay.panes;
    }

    private int columnLoad(Bay bay) {
        Bay left = leftOf(bay);
        return girderLoad(bay) + (left == null ? 0 : girderLoad(left));
    }

    private boolean girderHolds(Bay bay) {
        Lot girder = bay.latestAt(GIRDER);
        return girder == null || girderLoad(bay) <= girder.v;
    }

    private boolean columnHolds(Bay bay) {
        Lot column = bay.latestAt(COLUMN);
        return column == null || columnLoad(bay) <= 600 - 3 * column.v;
    }

    private int standingPieces() {
        int pieces = 0;
        for (Lot lot : lots) {
            pieces += lot == null ? 0 : lot.standing;
        }
        return pieces;
    }

    private int brokenPieces() {
        int pieces = 0;
        for (Lot lot : lots) {
            pieces += lot == null ? 0 : lot.broken;
        }
        return pieces;
    }

    // ---- who works, what will have come

    private boolean isKeptAway(Gang crew, int bay) {
        if (crew.workedOn == today) {
            return true;
        }
        for (Gang other : gangs) {
            if (other != null && other.workedOn == today) {
                boolean girders = crew.place == GIRDER || other.place == GIRDER;
                if (other.workedIn == bay || girders && isBeside(other.workedIn, bay)) {
                    return true;
                }
            }
        }
        return false;
    }

    private int willHaveCome(int kind, int day, boolean latest) {
        int pieces = 0;
        for (Lot lot : lots) {
            if (lot != null && lot.kind == kind && comingDay(lot, latest) <= day) {
                pieces += lot.pieces;
            }
        }
        return pieces;
    }

    private int comingDay(Lot lot, boolean latest) {
        if (lot.isTold() || !isFoundry(lot.foundry)) {
            return lot.cameOn;
        }
        return lot.orderedOn + (latest ? latestDays[lot.foundry] : leastDays[lot.foundry]);
    }

    private void lookAhead(boolean latest) {
        for (int row = 0; row < plan.rows && row < MOST_ROWS; row++) {
            int coming = willHaveCome(plan.kinds[row], plan.days[row], latest);
            plan.missing[row] = plan.wantedWith(row) - coming;
        }
    }

    private boolean agrees(long lot, long pieces) {
        Lot told = lotOf((int) lot);
        return told != null && told.isTold() && told.pieces == pieces;
    }

    /** PIECES of a KIND, ordered together. */
    static final class Lot {
        final int number, kind, foundry, pieces, v, orderedOn;
        int cameOn = ABSENT, toldOn = ABSENT;
        int standing, broken, sold;

        Lot(int number, int kind, int foundry, int pieces, int v, int orderedOn) {
            this.number = number;
            this.kind = kind;
            this.foundry = foundry;
            this.pieces = pieces;
            this.v = v;
            this.orderedOn = orderedOn;
        }

        boolean isTold() {
            return cameOn != ABSENT;
        }

        int stock() {
            return isTold() ? pieces - standing - broken - sold : 0;
        }

        int place() {
            return kind == WRONG ? COLUMN : kind;
        }

        boolean isUnder(int k) {
            return kind == k || k == PART || k == COLUMN && kind == WRONG;
        }

        boolean isOrderedLike(Lot other) {
            return kind == other.kind && foundry == other.foundry && orderedOn == other.orderedOn;
        }
    }

    /** A BAY, what stands in it, and who is there. */
    static final class Bay {
        final int number;
        int level, tree, people, panes;
        int leadsTo = -1;
        private final Lot[] single = new Lot[ODD + 1];
        private final Lot[] paneLots = new Lot[MOST_PANES];

        Bay(int number) {
            this.number = number;
        }

        int column() {
            return number % IN_ROW;
        }

        int row() {
            return number / IN_ROW;
        }

        int wantedLength() {
            return 100 - 2 * level;
        }

        /** The LOT of the PIECE that came last at a PLACE, or null. */
        Lot latestAt(int place) {
            if (place == PANE) {
                return panes > 0 && panes <= MOST_PANES ? paneLots[panes - 1] : null;
            }
            return place >= COLUMN && place <= ODD ? single[place] : null;
        }

        boolean has(int place) {
            return latestAt(place) != null;
        }

        int room(int place) {
            if (place == PANE) {
                return MOST_PANES - panes;
            }
            return has(place) ? 0 : 1;
        }

        boolean isBare() {
            boolean bare = true;
            for (int place = COLUMN; place <= ODD; place++) {
                bare = bare && !has(place);
            }
            return bare;
        }

        void put(Lot lot) {
            int place = lot.place();
            if (room(place) < 1) {
                return;
            }
            if (place == PANE && panes >= 0) {
                paneLots[panes] = lot;
                panes++;
            } else if (place >= COLUMN && place <= ODD) {
                single[place] = lot;
            }
            if (place == GUTTER) {
                leadsTo = -1;
            }
            lot.standing++;
        }

        /** The PIECE that came last at the LOT's PLACE is the LOT's. */
        void remove(Lot lot) {
            int place = lot.place();
            if (place == PANE) {
                panes--;
            } else if (place >= COLUMN && place <= ODD) {
                single[place] = null;
            }
            lot.standing--;
        }
    }

    /** THE TEXT that is fed, and how it is read. */
    static final class Script {
        private static final String SPELT = "pack pay load snow cut bar ";
        private static final int[] STARTS = {0, 5, 9, 14, 19, 23, 27};
        private static final int NO_FAULT = -1;

        int length;
        private final int[] bytes = new int[MOST_BYTES];
        private int place, fault;

        void append(int value) {
            if (length >= 0 && length < MOST_BYTES) {
                bytes[length] = value;
                length++;
            }
        }

        /** Reads THE TEXT as CLAUSES of a new one: the FAULT, or a number below 0. */
        int readInto(Text text) {
            place = 0;
            fault = NO_FAULT;
            text.empty();
            boolean another = true;
            for (int k = 1; another && k <= MOST_CLAUSES; k++) {
                readClause(text);
                another = look() == ';' && k < MOST_CLAUSES;
                if (another) {
                    place++;
                }
            }
            if (place < length) {
                fail();
            }
            return fault;
        }

        private void fail() {
            if (fault == NO_FAULT) {
                fault = place;
            }
        }

        /** The byte that is to be read now; behind the end and behind the FAULT there is none (-1). */
        private int look() {
            boolean there = fault == NO_FAULT && place >= 0 && place < length && place < MOST_BYTES;
            return there ? bytes[place] : -1;
        }

        private void readClause(Text text) {
            int word = readWord();
            if (word == CUT || word == BAR) {
                text.addClause(word, text.codeCount);
                readEither(text, 0);
                text.addCode(Text.END);
            } else {
                text.addClause(word, readNumber());
            }
        }

        /** The word that stands here with its blank. */
        private int readWord() {
            int most = 0;
            for (int word = 0; word < WORDS; word++) {
                int size = STARTS[word + 1] - STARTS[word];
                int alike = bytesLike(STARTS[word], size);
                if (alike == size) {
                    place += size;
                    return word;
                }
                most = Math.max(most, alike);
            }
            place += most;
            fail();
            return NONE;
        }

        private int bytesLike(int start, int size) {
            int alike = 0;
            while (alike < size && start + alike < SPELT.length() && place + alike < length
                    && place + alike < MOST_BYTES && bytes[place + alike] == SPELT.charAt(start + alike)) {
                alike++;
            }
            return alike;
        }

        private int readNumber() {
            int n = 0;
            int digits = 0;
            while (digits < 3 && look() >= '0' && look() <= '9') {
                n = 10 * n + look() - '0';
                digits++;
                place++;
            }
            if (digits == 0) {
                fail();
            }
            return n;
        }

        /** E: an & binds more than a |, so its code comes as soon as both its sides are read. */
        private void readEither(Text text, int around) {
            boolean both = false;
            boolean either = false;
            boolean another = true;
            for (int k = 0; another && k < MOST_BYTES; k++) {
                readOne(text, around);
                if (both) {
                    text.addCode(Text.AND);
                }
                both = look() == '&';
                if (!both && either) {
                    text.addCode(Text.OR);
                }
                either = look() == '|' || both && either;
                another = both || either;
                if (another) {
                    place++;
                }
            }
        }

        /** F: around is how many ( and ! it stands within, and keeps the depth of the calls low. */
        private void readOne(Text text, int around) {
            int sign = around < MOST_AROUND ? look() : -1;
            if (sign == '!') {
                place++;
                readOne(text, around + 1);
                text.addCode(Text.NOT);
            } else if (sign == '(') {
                place++;
                readEither(text, around + 1);
                if (look() == ')') {
                    place++;
                } else {
                    fail();
                }
            } else {
                readTest(text);
            }
        }

        private void readTest(Text text) {
            int letter = Text.letterOf(look());
            if (letter < 0) {
                fail();
            }
            place++;
            int relation = Text.relationOf(look());
            if (relation < 0) {
                fail();
            }
            place++;
            text.addTest(letter, relation, readNumber());
        }
    }

    /** A TEXT as it was read: its CLAUSES, and the conditions of cut and bar as codes, sides ahead of signs. */
    static final class Text {
        static final int AND = -1, OR = -2, NOT = -3, END = -4;
        private static final int RELATIONS = 3, NUMBERS = 1000;

        int from;
        int codeCount;
        private int clauses;
        private final int[] words = new int[MOST_CLAUSES];
        private final int[] values = new int[MOST_CLAUSES];
        private final int[] codes = new int[MOST_BYTES];

        static int letterOf(int sign) {
            switch (sign) {
                case 't': return 0;
                case 'l': return 1;
                case 'c': return 2;
                case 'r': return 3;
                case 'd': return 4;
                case 'f': return 5;
                default: return -1;
            }
        }

        static int relationOf(int sign) {
            switch (sign) {
                case '<': return 0;
                case '=': return 1;
                case '>': return 2;
                default: return -1;
            }
        }

        void empty() {
            clauses = 0;
            codeCount = 0;
        }

        /** The value is the number of the CLAUSE, or where the codes of its condition begin. */
        void addClause(int word, int value) {
            if (clauses >= 0 && clauses < MOST_CLAUSES) {
                words[clauses] = word;
                values[clauses] = value;
                clauses++;
            }
        }

        void addTest(int letter, int relation, int number) {
            addCode((letter * RELATIONS + relation) * NUMBERS + number);
        }

        void addCode(int code) {
            if (codeCount >= 0 && codeCount < MOST_BYTES) {
                codes[codeCount] = code;
                codeCount++;
            }
        }

        /** -1 if there is none. */
        int lastClauseOf(int word) {
            int last = -1;
            for (int k = 0; k < clauses && k < MOST_CLAUSES; k++) {
                if (words[k] == word) {
                    last = k;
                }
            }
            return last;
        }

        int valueOf(int clause) {
            return clause >= 0 && clause < MOST_CLAUSES ? values[clause] : 0;
        }

        /** Whether the condition holds whose codes begin there; the sides that wait are bits, the latest lowest. */
        boolean holds(int start, int[] letters) {
            int sides = 0;
            for (int k = Math.max(start, 0); k < codeCount && k < MOST_BYTES && codes[k] != END; k++) {
                int code = codes[k];
                switch (code) {
                    case NOT:
                        sides ^= 1;
                        break;
                    case AND:
                        sides = sides >> 1 & (sides | -2);
                        break;
                    case OR:
                        sides = sides >> 1 | sides & 1;
                        break;
                    default:
                        sides = sides << 1 | (testHolds(code, letters) ? 1 : 0);
                }
            }
            return (sides & 1) == 1;
        }

        private static boolean testHolds(int code, int[] letters) {
            int number = code % NUMBERS;
            int relation = code / NUMBERS % RELATIONS;
            int letter = code / NUMBERS / RELATIONS;
            int value = letter >= 0 && letter < letters.length ? letters[letter] : 0;
            switch (relation) {
                case 0: return value < number;
                case 1: return value == number;
                default: return value > number;
            }
        }
    }

    /** The TEXTS, and THE LAW that they make. */
    static final class Laws {
        private static final int[] WITHOUT = {0, 10, 3, 2};

        int count;
        private final Text[] texts = new Text[MOST_TEXTS];
        private final int[] letters = new int[6];

        Laws() {
            for (int k = 0; k < MOST_TEXTS; k++) {
                texts[k] = new Text();
            }
        }

        /** The one that becomes the next, or null if there are all. */
        Text nextText() {
            return count >= 0 && count < MOST_TEXTS ? texts[count] : null;
        }

        Text textOf(int index) {
            return index >= 0 && index < count && index < MOST_TEXTS ? texts[index] : null;
        }

        /** By which TEXT the LAW of a DAY for a word is; -1 without any. */
        int textFor(int word, int day) {
            int best = -1;
            int bestFrom = 0;
            for (int k = 0; k < count && k < MOST_TEXTS; k++) {
                Text text = texts[k];
                if (text.from <= day && text.from >= bestFrom && text.lastClauseOf(word) >= 0) {
                    best = k;
                    bestFrom = text.from;
                }
            }
            return best;
        }

        int numberFor(int word, int day) {
            Text text = textOf(textFor(word, day));
            if (text != null) {
                return text.valueOf(text.lastClauseOf(word));
            }
            return word >= 0 && word < WITHOUT.length ? WITHOUT[word] : 0;
        }

        boolean mayCut(Bay bay, int day) {
            letters[0] = bay.tree;
            letters[1] = bay.level;
            letters[2] = bay.column();
            letters[3] = bay.row();
            letters[4] = day % WEEK;
            letters[5] = 0;
            return holdsFor(CUT, day);
        }

        boolean bars(int foundry, int day) {
            letters[0] = 0;
            letters[1] = 0;
            letters[2] = 0;
            letters[3] = 0;
            letters[4] = day % WEEK;
            letters[5] = foundry;
            return holdsFor(BAR, day);
        }

        private boolean holdsFor(int word, int day) {
            Text text = textOf(textFor(word, day));
            return text != null && text.holds(text.valueOf(text.lastClauseOf(word)), letters);
        }
    }

    /** RAIN, and the water that stands HOUR by HOUR. */
    static final class Water {
        final int[] rain = new int[HOURS];
        final int[] standing = new int[BAYS];
        final int[] leaks = new int[BAYS];
        private final int[] coming = new int[BAYS];
        private final int[] sent = new int[BAYS];

        /** From no water at first to what stands behind the HOUR. */
        void runThrough(Bay[] bays, int last) {
            for (int b = 0; b < BAYS; b++) {
                standing[b] = 0;
                coming[b] = 0;
                leaks[b] = 0;
            }
            for (int hour = 0; hour <= last && hour < HOURS; hour++) {
                runHour(bays, rain[hour]);
            }
        }

        private void runHour(Bay[] bays, int fallen) {
            for (int b = 0; b < BAYS; b++) {
                sent[b] = 0;
            }
            for (int b = 0; b < BAYS && b < bays.length; b++) {
                Bay bay = bays[b];
                if (bay != null && bay.panes > 0) {
                    standing[b] += fallen * bay.panes / 8 + coming[b];
                    drain(bay, b);
                    leaks[b] += Math.max(0, standing[b] - 50);
                }
            }
            for (int b = 0; b < BAYS; b++) {
                coming[b] = sent[b];
            }
        }

        private void drain(Bay bay, int b) {
            Lot gutter = bay.latestAt(GUTTER);
            int taken = gutter == null ? 0 : Math.min(standing[b], gutter.v);
            standing[b] -= taken;
            if (bay.leadsTo >= 0 && bay.leadsTo < BAYS) {
                sent[bay.leadsTo] += taken;
            }
        }

        int leaksOfAll() {
            int all = 0;
            for (int b = 0; b < BAYS; b++) {
                all += leaks[b];
            }
            return all;
        }
    }

    /** A GANG, and where it worked last. */
    static final class Gang {
        final int place;
        int workedOn = ABSENT, workedIn = ABSENT;
        private final int firstPace;
        private int done;

        Gang(int place, int firstPace) {
            this.place = place;
            this.firstPace = firstPace;
        }

        /** Its PACE. */
        int pieces() {
            return Math.min(MOST_PACE, firstPace + done / 10);
        }

        void worked(int day, int bay, int pieces) {
            workedOn = day;
            workedIn = bay;
            done += pieces;
        }
    }

    /** The rows of WANTED, and the ADDITIONS. */
    static final class Plan {
        int rows, additions;
        final int[] kinds = new int[MOST_ROWS];
        final int[] days = new int[MOST_ROWS];
        /** Of each row: how many more are WANTED by its DAY than WILL HAVE COME without ADDITIONS. */
        final int[] missing = new int[MOST_ROWS];
        private final int[] wanted = new int[MOST_ROWS];
        private final int[] addedKinds = new int[MOST_ADDITIONS];
        private final int[] added = new int[MOST_ADDITIONS];
        private final int[] addedDays = new int[MOST_ADDITIONS];
        private final int[] coins = new int[MOST_ADDITIONS];

        boolean addRow(int kind, int n, int day) {
            if (rows < 0 || rows >= MOST_ROWS) {
                return false;
            }
            kinds[rows] = kind;
            wanted[rows] = n;
            days[rows] = day;
            rows++;
            return true;
        }

        boolean addAddition(int kind, int n, int day, int coin) {
            if (additions < 0 || additions >= MOST_ADDITIONS) {
                return false;
            }
            addedKinds[additions] = kind;
            added[additions] = n;
            addedDays[additions] = day;
            coins[additions] = coin;
            additions++;
            return true;
        }

        /** How many of the row's KIND are WANTED by its DAY, all rows together. */
        int wantedWith(int row) {
            int pieces = 0;
            for (int k = 0; row >= 0 && row < MOST_ROWS && k < rows && k < MOST_ROWS; k++) {
                if (kinds[k] == kinds[row] && days[k] <= days[row]) {
                    pieces += wanted[k];
                }
            }
            return pieces;
        }

        /**
         * The row of the first LACK with a set of ADDITIONS, or -1. The DAYS of the rows are enough:
         * what is WANTED grows on them alone, and what WILL HAVE COME never becomes less.
         */
        int firstLack(int set) {
            int first = -1;
            for (int k = 0; k < rows && k < MOST_ROWS; k++) {
                if (missing[k] > addedFor(set, k) && (first < 0 || isAhead(k, first))) {
                    first = k;
                }
            }
            return first;
        }

        private boolean isAhead(int row, int other) {
            return days[row] < days[other] || days[row] == days[other] && kinds[row] < kinds[other];
        }

        private int addedFor(int set, int row) {
            int pieces = 0;
            for (int k = 0; k < additions && k < MOST_ADDITIONS; k++) {
                if ((set >> k & 1) == 1 && addedKinds[k] == kinds[row] && addedDays[k] <= days[row]) {
                    pieces += added[k];
                }
            }
            return pieces;
        }

        /** BEST; as the sets come by their bits, one that is only as good as an earlier one stays behind. */
        int cheapestSet() {
            int best = ABSENT;
            int bestCoin = 0;
            for (int set = 0; set < 1 << additions; set++) {
                int coin = coinOf(set);
                boolean better = best == ABSENT || coin < bestCoin
                        || coin == bestCoin && Integer.bitCount(set) < Integer.bitCount(best);
                if (better && firstLack(set) < 0) {
                    best = set;
                    bestCoin = coin;
                }
            }
            return best;
        }

        private int coinOf(int set) {
            int coin = 0;
            for (int k = 0; k < additions && k < MOST_ADDITIONS; k++) {
                coin += (set >> k & 1) == 1 ? coins[k] : 0;
            }
            return coin;
        }
    }

    /** The RUNS of the NATIONS; a size of 0 is none. */
    static final class Nations {
        final int[] firsts = new int[NATIONS];
        final int[] sizes = new int[NATIONS];
        final int[] givenWay = new int[NATIONS];

        /** The NATION is LET n BAYS: the first of them. */
        int place(int nation, int n) {
            if (nation < 0 || nation >= NATIONS) {
                return NONE;
            }
            sizes[nation] = 0;
            int best = 0;
            int fewest = NATIONS;
            for (int first = 0; first < BAYS; first++) {
                if (first % IN_ROW + n <= IN_ROW && inTheWay(first, n) < fewest) {
                    best = first;
                    fewest = inTheWay(first, n);
                }
            }
            clear(best, n);
            firsts[nation] = best;
            sizes[nation] = n;
            return best;
        }

        private int inTheWay(int first, int n) {
            int others = 0;
            for (int k = 0; k < NATIONS; k++) {
                others += meets(k, first, n) ? 1 : 0;
            }
            return others;
        }

        private void clear(int first, int n) {
            for (int k = 0; k < NATIONS; k++) {
                if (meets(k, first, n)) {
                    sizes[k] = 0;
                    givenWay[k]++;
                }
            }
        }

        private boolean meets(int nation, int first, int n) {
            return sizes[nation] > 0 && firsts[nation] < first + n && first < firsts[nation] + sizes[nation];
        }
    }

    /** The bodies of the ACTS, and THE TRACE of those that ran. */
    static final class Acts {
        int ran;
        private final int[] bodies = new int[20];

        int bodyAt(int i) {
            return i >= 0 && i < ran && i < bodies.length ? bodies[i] : NONE;
        }

        int perform(Lot lot, int act, int x) {
            switch (act) {
                case 0: return fitsFrom(lot, lot.kind, x);
                case 1: return bearsFrom(lot, lot.kind, x);
                case 2: return endsFrom(lot, lot.kind, x);
                default: return 0;
            }
        }

        private void begin(int body) {
            if (ran >= 0 && ran < bodies.length) {
                bodies[ran] = body;
            }
            ran++;
        }

        // Each of the three takes the body of the KIND given, or of the next above that has one. The KIND
        // given to a call within only goes up, to PART at last, and ends need bears, bears fits: so they end.

        private int fitsFrom(Lot lot, int kind, int x) {
            switch (kind) {
                case COLUMN:
                    begin(20);
                    return fitsFrom(lot, PART, x) ^ lot.number;
                case PANE:
                    begin(40);
                    return -fitsFrom(lot, PART, x);
                case WRONG:
                    begin(70);
                    return fitsFrom(lot, COLUMN, x - 2);
                default:
                    begin(10);
                    return x + lot.v;
            }
        }

        private int bearsFrom(Lot lot, int kind, int x) {
            switch (kind) {
                case GIRDER:
                    begin(30);
                    return bearsFrom(lot, PART, x * 3);
                case GUTTER:
                    begin(50);
                    return bearsFrom(lot, PART, x) + fitsFrom(lot, PART, 2);
                case WRONG:
                    begin(71);
                    return bearsFrom(lot, PART, x) * 5;
                default:
                    begin(11);
                    return fitsFrom(lot, lot.kind, x) - lot.foundry;
            }
        }

        private int endsFrom(Lot lot, int kind, int x) {
            switch (kind) {
                case COLUMN:
                case WRONG:
                    begin(21);
                    return endsFrom(lot, PART, x) + fitsFrom(lot, lot.kind, 1);
                case ODD:
                    begin(60);
                    return bearsFrom(lot, lot.kind, x) - endsFrom(lot, PART, x);
                default:
                    begin(12);
                    return bearsFrom(lot, lot.kind, x) * 2;
            }
        }
    }

    /** A row of items of one sort, or nothing. */
    static final class Tape {
        int sort = EMPTY;
        final long[] items = new long[MOST_ITEMS];
        private int size;

        void become(int newSort, int newSize) {
            sort = newSort;
            size = newSize;
            for (int k = 0; k < MOST_ITEMS; k++) {
                items[k] = 0;
            }
        }

        boolean hasItem(long i) {
            return i >= 0 && i < size && i < MOST_ITEMS;
        }

        boolean hasItems(int first, int n) {
            return first >= 0 && n >= 0 && (long) first + n <= size;
        }

        long itemAt(long i) {
            return hasItem(i) ? items[(int) i] : 0;
        }

        boolean put(int i, long v) {
            if (!hasItem(i)) {
                return false;
            }
            items[i] = trimmed(v);
            return true;
        }

        private long trimmed(long v) {
            switch (sort) {
                case BYTES: return (byte) v;
                case SHORTS: return (short) v;
                case INTS: return (int) v;
                case LONGS: return v;
                default: return v != 0 ? 1 : 0;
            }
        }
    }
}
