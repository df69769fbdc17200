/**
 * Each refusal that a promise names, also where two of them hold at once: the first that the call's words name is
 * answered; and a refused call changes nothing, read out of a palace in use.
 */
public final class RefusalsTest {
    private static final int NONE = -1, BAD = -2, STATE = -3, FULL = -4, ABSENT = -5;
    private static final int NOTHING = -11, CAST = -12, PLACE = -13, SIZE = -14;
    private static final long NO = Long.MIN_VALUE;
    private static final int MIN = Integer.MIN_VALUE, MAX = Integer.MAX_VALUE;

    public static void main(String[] args) {
        builtAsTold();
        site();
        lots();
        bays();
        takenDown();
        laws();
        fullLaws();
        loads();
        water();
        gangs();
        work();
        plan();
        nations();
        acts();
        lists();
        tapes();
        shifts();
        Due.end("RefusalsTest");
    }

    /** What the other tests stand on: the palace holds something of everything. */
    private static void builtAsTold() {
        int[] counts = {3, Palace.LOTS, 2, 3, 4, 2, 2, 28, 1, 10};
        GlassPalace x = Palace.built();
        for (int what = 0; what < counts.length; what++) {
            Due.is("built: count(" + what + ")", x.count(what), counts[what]);
        }
        Due.is("built: panes in 1", x.at(1, 3), 10);
        Due.is("built: a girder in 6", x.at(6, 2), Palace.GIRDERS);
        Due.is("built: a wrong column in 6", x.at(6, 1), Palace.WRONGS);
        Due.is("built: an odd piece by a tree", x.at(9, 5), Palace.ODDS);
        Due.is("built: nation 0 gave way", x.nation(0, 2), 1);
    }

    private static void site() {
        Palace.refused("2 pass(0)", BAD, x -> x.pass(0));
        Palace.refused("2 pass(51)", BAD, x -> x.pass(51));
        Palace.refused("2 pass beyond 399", BAD, x -> goTo(x, 390), x -> x.pass(10));
        Palace.refused("2 pass(51) beyond 399, too", BAD, x -> goTo(x, 399), x -> x.pass(51));

        Palace.refused("3 no such bay", NONE, x -> x.bay(30, 0, 1));
        Palace.refused("3 no such bay", NONE, x -> x.bay(-1, 1, 1));
        Palace.refused("3 no such what", NONE, x -> x.bay(20, 2, 1));
        Palace.refused("3 no such what", NONE, x -> x.bay(20, -1, 1));
        Palace.refused("3 level", BAD, x -> x.bay(20, 0, 21));
        Palace.refused("3 level", BAD, x -> x.bay(20, 0, -1));
        Palace.refused("3 tree", BAD, x -> x.bay(20, 1, 61));
        Palace.refused("3 tree", BAD, x -> x.bay(20, 1, -1));
        Palace.refused("3 something stands: level", STATE, x -> x.bay(0, 0, 4));
        Palace.refused("3 something stands: tree", STATE, x -> x.bay(9, 1, 5));
        Palace.refused("3 bay ahead of n", NONE, x -> x.bay(30, 0, 21));
        Palace.refused("3 what ahead of n", NONE, x -> x.bay(20, 2, -1));
        Palace.refused("3 what ahead of what stands", NONE, x -> x.bay(0, 2, 1));
        Palace.refused("3 n ahead of what stands: level", BAD, x -> x.bay(0, 0, 21));
        Palace.refused("3 n ahead of what stands: tree", BAD, x -> x.bay(0, 1, 61));

        Palace.refused("4 no such foundry", NONE, x -> x.foundry(8, 3, 4));
        Palace.refused("4 no such foundry", NONE, x -> x.foundry(-1, 3, 4));
        Palace.refused("4 least", BAD, x -> x.foundry(3, 0, 4));
        Palace.refused("4 latest", BAD, x -> x.foundry(3, 3, 61));
        Palace.refused("4 least above latest", BAD, x -> x.foundry(3, 5, 4));
        Palace.refused("4 foundry ahead of days", NONE, x -> x.foundry(8, 5, 4));
    }

    private static void goTo(GlassPalace x, int day) {
        for (int left = day - x.count(0); left > 0; left -= 50) {
            x.pass(Math.min(50, left));
        }
    }

    private static void fillLots(GlassPalace x) {
        for (int k = Palace.LOTS; k < 60; k++) {
            x.order(5, 7, 1, 1);
        }
    }

    private static void lots() {
        Palace.refused("5 no such kind", NONE, x -> x.order(7, 0, 1, 1));
        Palace.refused("5 no such kind", NONE, x -> x.order(-1, 0, 1, 1));
        Palace.refused("5 no such foundry", NONE, x -> x.order(1, 8, 1, 1));
        Palace.refused("5 no such foundry", NONE, x -> x.order(1, -1, 1, 1));
        Palace.refused("5 pieces", BAD, x -> x.order(1, 0, 0, 1));
        Palace.refused("5 pieces", BAD, x -> x.order(1, 0, 1000, 1));
        Palace.refused("5 v", BAD, x -> x.order(1, 0, 1, -1));
        Palace.refused("5 v", BAD, x -> x.order(1, 0, 1, 1000));
        Palace.refused("5 full", FULL, RefusalsTest::fillLots, x -> x.order(1, 0, 1, 1));
        Palace.refused("5 kind ahead of pieces", NONE, x -> x.order(7, 0, 0, 1));
        Palace.refused("5 foundry ahead of v", NONE, x -> x.order(1, 8, 1, 1000));
        Palace.refused("5 kind ahead of full", NONE, RefusalsTest::fillLots, x -> x.order(7, 0, 1, 1));
        Palace.refused("5 pieces ahead of full", BAD, RefusalsTest::fillLots, x -> x.order(1, 0, 0, 1));
        Palace.refused("5 v ahead of full", BAD, RefusalsTest::fillLots, x -> x.order(1, 0, 1, -1));

        Palace.refused("6 no such lot", NONE, x -> x.come(Palace.LOTS, 3));
        Palace.refused("6 no such lot", NONE, x -> x.come(-1, 3));
        Palace.refused("6 ahead of its order", BAD, x -> x.come(Palace.WAITED_PANES, 2));
        Palace.refused("6 behind today", BAD, x -> x.come(Palace.WAITED_PANES, 4));
        Palace.refused("6 it was told", STATE, x -> x.come(Palace.COLUMNS, 3));
        Palace.refused("6 it was told: on that day", STATE, x -> x.come(Palace.COLUMNS, 0));
        Palace.refused("6 lot ahead of day", NONE, x -> x.come(Palace.LOTS, 400));
        Palace.refused("6 day ahead of told", BAD, x -> x.come(Palace.COLUMNS, 4));
        Palace.refused("6 day ahead of told", BAD, x -> x.come(Palace.COLUMNS, -1));

        Palace.refused("7 no such lot", NONE, x -> x.of(Palace.LOTS, 0));
        Palace.refused("7 no such what", NONE, x -> x.of(0, 9));
        Palace.refused("7 no such what", NONE, x -> x.of(0, -1));

        Palace.refused("8 no such lot", NONE, x -> x.tried(Palace.LOTS, 101));
        Palace.refused("8 load", BAD, x -> x.tried(Palace.PANES, 2001));
        Palace.refused("8 load", BAD, x -> x.tried(Palace.PANES, -1));
        Palace.refused("8 none in stock", STATE, x -> x.tried(Palace.WAITED_PANES, 101));
        Palace.refused("8 lot ahead of load", NONE, x -> x.tried(Palace.LOTS, 2001));
        Palace.refused("8 load ahead of stock", BAD, x -> x.tried(Palace.WAITED_PANES, 2001));

        Palace.refused("9 no such lot", NONE, x -> x.sell(Palace.LOTS, 1));
        Palace.refused("9 n", BAD, x -> x.sell(Palace.PANES, 0));
        Palace.refused("9 n", BAD, x -> x.sell(Palace.PANES, -1));
        Palace.refused("9 not so many", STATE, x -> x.sell(Palace.BROKEN, 4));
        Palace.refused("9 it has not come", STATE, x -> x.sell(Palace.WAITED_PANES, 1));
        Palace.refused("9 lot ahead of n", NONE, x -> x.sell(Palace.LOTS, 0));
        Palace.refused("9 n ahead of not so many", BAD, x -> x.sell(Palace.BROKEN, 1000));
        Palace.refused("9 n ahead of not so many", BAD, x -> x.sell(Palace.WAITED_PANES, 0));
    }

    private static void bays() {
        Palace.refused("10 no such bay", NONE, x -> x.wants(30));
        Palace.refused("11 no such lot", NONE, x -> x.fit(Palace.LOTS, 0));
        Palace.refused("11 no such bay", NONE, x -> x.fit(0, 30));
        Palace.refused("11 none in stock", 0, x -> x.fit(Palace.WAITED_COLUMNS, 14));
        Palace.refused("11 barred", -2, x -> x.fit(Palace.BROKEN, 3));
        Palace.refused("11 a plain part", -3, x -> x.fit(Palace.PARTS, 14));
        Palace.refused("11 no room", -4, x -> x.fit(Palace.COLUMNS, 1));
        Palace.refused("11 its length", -5, x -> x.fit(Palace.COLUMNS, 20));
        Palace.refused("11 a tree", -6, x -> x.fit(Palace.COLUMNS, 10));
        Palace.refused("11 no column", -7, x -> x.fit(Palace.GIRDERS, 14));

        Palace.refused("12 no such lot", NONE, x -> x.set(Palace.LOTS, 14));
        Palace.refused("12 no such bay", NONE, x -> x.set(Palace.COLUMNS, 30));
        Palace.refused("12 none in stock", STATE, x -> x.set(Palace.WAITED_COLUMNS, 14));
        Palace.refused("12 barred", STATE, x -> x.set(Palace.BROKEN, 3));
        Palace.refused("12 a plain part", STATE, x -> x.set(Palace.PARTS, 14));
        Palace.refused("12 no room", STATE, x -> x.set(Palace.COLUMNS, 1));
        Palace.refused("12 no room for an odd one", STATE, x -> x.set(Palace.ODDS, 9));
        Palace.refused("12 no room for a gutter", STATE, x -> x.set(Palace.GUTTERS, 1));
        Palace.refused("12 its length", STATE, x -> x.set(Palace.COLUMNS, 20));
        Palace.refused("12 a tree", STATE, x -> x.set(Palace.COLUMNS, 10));
        Palace.refused("12 no column", STATE, x -> x.set(Palace.GIRDERS, 14));
        Palace.refused("12 no girder", STATE, x -> x.set(Palace.PANES, 2));
        Palace.refused("12 no girder", STATE, x -> x.set(Palace.GUTTERS, 2));
        Palace.refused("12 no such bay, none in stock", NONE, x -> x.set(Palace.WAITED_COLUMNS, 30));
    }

    private static void takenDown() {
        Palace.refused("13 no such bay", NONE, x -> x.at(30, 1));
        Palace.refused("13 no such place", NONE, x -> x.at(0, 6));
        Palace.refused("14 no such bay", NONE, x -> x.down(30, 1));
        Palace.refused("14 no such place", NONE, x -> x.down(9, 6));
        Palace.refused("14 no such place", NONE, x -> x.down(9, 0));
        for (int place = 1; place <= 5; place++) {
            int there = place;
            Palace.refused("14 nothing is there, place " + place, STATE, x -> x.down(29, there));
        }
        Palace.refused("14 a column under a girder", STATE, x -> x.down(0, 1));
        Palace.refused("14 a column to the right of a girder", STATE, x -> x.down(2, 1));
        Palace.refused("14 a girder under panes", STATE, x -> x.down(1, 2));
        Palace.refused("14 a girder under a gutter", STATE, x -> {
            x.down(0, 3);
            x.down(0, 3);
        }, x -> x.down(0, 2));
        Palace.refused("15 no such bay", NONE, x -> x.cut(30));
        Palace.refused("15 no such bay", NONE, x -> x.cut(-1));
        Palace.refused("15 there is none", STATE, x -> x.cut(14));
        Palace.refused("15 it must stay", STATE, x -> x.cut(10));
    }

    private static void fillText(GlassPalace x) {
        while (x.count(3) < 99) {
            x.feed('1', 1);
        }
    }

    private static void laws() {
        Palace.refused("16 n", BAD, x -> x.feed(' ', -1));
        Palace.refused("16 n", BAD, x -> x.feed(' ', 5));
        Palace.refused("18 no such word", NONE, x -> x.force(6, 0, 0));
        Palace.refused("18 no such bay", NONE, x -> x.force(4, 0, 30));
        Palace.refused("18 no such foundry", NONE, x -> x.force(5, 0, 8));
        for (int word = 0; word < 6; word++) {
            int asked = word;
            Palace.refused("18 day of word " + word, BAD, x -> x.force(asked, 400, 0));
            Palace.refused("18 day of word " + word, BAD, x -> x.force(asked, -1, 0));
            Palace.refused("19 day of word " + word, BAD, x -> x.why(asked, 400));
            Palace.refused("19 day of word " + word, BAD, x -> x.why(asked, -1));
        }
        Palace.refused("18 word ahead of day", NONE, x -> x.force(-1, 400, 0));
        Palace.refused("18 bay ahead of day", NONE, x -> x.force(4, -1, 30));
        Palace.refused("18 foundry ahead of day", NONE, x -> x.force(5, 400, -1));
        Palace.refused("19 no such word", NONE, x -> x.why(6, 0));
        Palace.refused("19 word ahead of day", NONE, x -> x.why(6, 400));
        Palace.refused("19 word ahead of day", NONE, x -> x.why(-1, -1));
    }

    private static void fullLaws() {
        for (int n = 2; n <= 4; n++) {
            int bytes = n;
            Palace.refused("16 full with " + n, FULL, RefusalsTest::fillText, x -> x.feed(0, bytes));
        }
        Palace.refused("16 n ahead of full", BAD, RefusalsTest::fillText, x -> x.feed(0, 5));
        Palace.refused("16 n ahead of full", BAD, RefusalsTest::fillText, x -> x.feed(0, -1));
        Palace.Steps tenTexts = x -> {
            Palace.law(x, " 1", 0);
            while (x.count(2) < 10) {
                Palace.law(x, "pay 1", 0);
            }
            Palace.feed(x, "pay");
        };
        Palace.refused("17 day", BAD, x -> x.law(-1));
        Palace.refused("17 day", BAD, x -> x.law(400));
        Palace.refused("17 full", FULL, tenTexts, x -> x.law(0));
        Palace.refused("17 day ahead of full", BAD, tenTexts, x -> x.law(400));
        Palace.refused("17 day ahead of full", BAD, tenTexts, x -> x.law(-1));
        Palace.refused("17 day ahead of the fault", BAD, x -> x.feed('?', 1), x -> x.law(400));
        Palace.refused("17 full ahead of the fault", FULL, tenTexts, x -> x.law(3));
    }

    private static void loads() {
        Palace.refused("20 no such bay", NONE, x -> x.people(30, 5));
        Palace.refused("20 people", BAD, x -> x.people(0, 201));
        Palace.refused("20 people", BAD, x -> x.people(0, -1));
        Palace.refused("20 bay ahead of people", NONE, x -> x.people(-1, 201));
        Palace.refused("21 no such bay", NONE, x -> x.bears(30, 0));
        Palace.refused("21 no such what", NONE, x -> x.bears(0, 4));
        for (int what = 0; what < 4; what++) {
            int asked = what;
            Palace.refused("21 it is not there, what " + what, ABSENT, x -> x.bears(14, asked));
        }
        Palace.refused("21 no girder on that column", ABSENT, x -> x.bears(2, 0));
        Palace.refused("21 no girder on that column", ABSENT, x -> x.bears(2, 2));
        Palace.refused("21 what ahead of what is not there", NONE, x -> x.bears(14, 4));
        Palace.refused("21 what ahead of what is not there", NONE, x -> x.bears(14, -1));
    }

    private static void water() {
        Palace.refused("23 no such hour", NONE, x -> x.rain(24, 5));
        Palace.refused("23 no such hour", NONE, x -> x.rain(-1, 5));
        Palace.refused("23 rain", BAD, x -> x.rain(0, 100));
        Palace.refused("23 rain", BAD, x -> x.rain(0, -1));
        Palace.refused("23 hour ahead of rain", NONE, x -> x.rain(24, 100));
        Palace.refused("24 no such bay", NONE, x -> x.leads(30, -1));
        Palace.refused("24 no such other bay", NONE, x -> x.leads(0, 30));
        Palace.refused("24 no such other bay", NONE, x -> x.leads(0, -2));
        Palace.refused("24 not beside", BAD, x -> x.leads(0, 2));
        Palace.refused("24 itself is not beside", BAD, x -> x.leads(0, 0));
        Palace.refused("24 no gutter", STATE, x -> x.leads(2, 3));
        Palace.refused("24 no gutter, into its column", STATE, x -> x.leads(2, -1));
        Palace.refused("24 bays ahead of not beside", NONE, x -> x.leads(30, 2));
        Palace.refused("24 bays ahead of no gutter", NONE, x -> x.leads(2, 30));
        Palace.refused("24 not beside ahead of no gutter", BAD, x -> x.leads(2, 4));
        Palace.refused("25 no such bay", NONE, x -> x.stands(30, 0));
        Palace.refused("25 no such hour", NONE, x -> x.stands(0, 24));
        Palace.refused("26 no such bay", ABSENT, x -> x.leaks(30));
        Palace.refused("26 no such bay", ABSENT, x -> x.leaks(-2));
    }

    private static void gangs() {
        Palace.Steps tenGangs = x -> {
            for (int k = 4; k < 10; k++) {
                x.gang(4, 2);
            }
        };
        Palace.refused("27 no such place", NONE, x -> x.gang(5, 5));
        Palace.refused("27 no such place", NONE, x -> x.gang(0, 5));
        Palace.refused("27 pace", BAD, x -> x.gang(1, 0));
        Palace.refused("27 pace", BAD, x -> x.gang(1, 21));
        Palace.refused("27 full", FULL, tenGangs, x -> x.gang(1, 5));
        Palace.refused("27 place ahead of pace", NONE, x -> x.gang(5, 21));
        Palace.refused("27 place ahead of full", NONE, tenGangs, x -> x.gang(0, 5));
        Palace.refused("27 pace ahead of full", BAD, tenGangs, x -> x.gang(1, 21));
        Palace.refused("29 no such gang", NONE, x -> x.pace(4));
        Palace.refused("29 no such gang", NONE, x -> x.pace(-1));
    }

    private static void work() {
        Palace.refused("28 no such gang", NONE, x -> x.work(4, 14, Palace.COLUMNS));
        Palace.refused("28 no such bay", NONE, x -> x.work(2, 30, Palace.COLUMNS));
        Palace.refused("28 no such lot", NONE, x -> x.work(2, 14, Palace.LOTS));
        Palace.refused("28 not its place's kind", CAST, x -> x.work(2, 14, Palace.GIRDERS));
        Palace.refused("28 no place's kind: a part", CAST, x -> x.work(2, 14, Palace.PARTS));
        Palace.refused("28 no gang's kind: odd", CAST, x -> x.work(2, 14, Palace.ODDS));
        Palace.refused("28 the gang was there", STATE, x -> x.work(0, 1, Palace.PANES));
        Palace.refused("28 the gang was elsewhere", STATE, x -> x.work(0, 0, Palace.PANES));
        Palace.refused("28 another one was there", STATE, x -> x.work(3, 1, Palace.GUTTERS));
        Palace.refused("28 girders beside a gang", STATE, x -> x.work(1, 2, Palace.GIRDERS));
        Palace.refused("28 beside girders", STATE, x -> x.work(1, 3, Palace.GIRDERS),
            x -> x.work(2, 9, Palace.COLUMNS));
        Palace.refused("28 none in stock", 0, x -> x.work(2, 14, Palace.WAITED_COLUMNS));
        Palace.refused("28 barred", -2, x -> x.work(1, 3, Palace.BROKEN));
        Palace.refused("28 no room", -4, x -> x.work(2, 3, Palace.COLUMNS));
        Palace.refused("28 its length", -5, x -> x.work(2, 20, Palace.COLUMNS));
        Palace.refused("28 a tree", -6, x -> x.work(2, 10, Palace.COLUMNS));
        Palace.refused("28 no column", -7, x -> x.work(1, 14, Palace.GIRDERS));
        Palace.refused("28 no girder", -7, x -> x.work(3, 14, Palace.GUTTERS));

        Palace.refused("28 gang ahead of kind", NONE, x -> x.work(-1, 14, Palace.PARTS));
        Palace.refused("28 bay ahead of kind", NONE, x -> x.work(2, -1, Palace.PARTS));
        Palace.refused("28 bay ahead of state", NONE, x -> x.work(0, 30, Palace.PANES));
        Palace.refused("28 lot ahead of state", NONE, x -> x.work(0, 1, -1));
        Palace.refused("28 kind ahead of the gang was there", CAST, x -> x.work(0, 1, Palace.COLUMNS));
        Palace.refused("28 kind ahead of another one was there", CAST, x -> x.work(3, 1, Palace.PANES));
        Palace.refused("28 kind ahead of girders beside", CAST, x -> x.work(1, 2, Palace.COLUMNS));
        Palace.refused("28 kind ahead of fit's: none in stock", CAST, x -> x.work(1, 14, Palace.WAITED_COLUMNS));
        Palace.refused("28 kind ahead of fit's: no column", CAST, x -> x.work(2, 14, Palace.PANES));
        Palace.refused("28 the gang was there ahead of none in stock", STATE,
            x -> x.work(0, 0, Palace.WAITED_PANES));
        Palace.refused("28 the gang was elsewhere ahead of no girder", STATE, x -> x.work(0, 14, Palace.PANES));
        Palace.refused("28 another one was there ahead of no room", STATE, x -> x.work(2, 1, Palace.COLUMNS));
        Palace.refused("28 another one was there ahead of barred", STATE, x -> x.work(1, 1, Palace.BROKEN));
        Palace.refused("28 girders beside ahead of no room", STATE, x -> x.work(1, 0, Palace.GIRDERS));
        Palace.refused("28 beside girders ahead of its length", STATE, x -> x.work(1, 3, Palace.GIRDERS),
            x -> x.work(2, 9, Palace.SHORT));
    }

    private static void plan() {
        Palace.Steps allRows = x -> {
            for (int k = 2; k < 20; k++) {
                x.want(4, 1, 390);
            }
        };
        Palace.Steps allAdditions = x -> {
            for (int k = 2; k < 8; k++) {
                x.more(4, 1, 390, 1);
            }
        };
        Palace.refused("30 no such kind", NONE, x -> x.want(0, 1, 5));
        Palace.refused("30 no such kind", NONE, x -> x.want(6, 1, 5));
        Palace.refused("30 n", BAD, x -> x.want(1, 0, 5));
        Palace.refused("30 n", BAD, x -> x.want(1, 1000, 5));
        Palace.refused("30 day", BAD, x -> x.want(1, 1, -1));
        Palace.refused("30 day", BAD, x -> x.want(1, 1, 400));
        Palace.refused("30 full", FULL, allRows, x -> x.want(1, 1, 5));
        Palace.refused("30 kind ahead of n", NONE, x -> x.want(6, 0, 5));
        Palace.refused("30 kind ahead of day", NONE, x -> x.want(0, 1, 400));
        Palace.refused("30 kind ahead of full", NONE, allRows, x -> x.want(6, 1, 5));
        Palace.refused("30 n ahead of full", BAD, allRows, x -> x.want(1, 0, 5));
        Palace.refused("30 day ahead of full", BAD, allRows, x -> x.want(1, 1, 400));

        Palace.refused("31 no such kind", NONE, x -> x.ahead(6, 5, true));
        Palace.refused("31 no such kind", NONE, x -> x.ahead(0, 5, false));
        Palace.refused("31 day", BAD, x -> x.ahead(1, 400, true));
        Palace.refused("31 kind ahead of day", NONE, x -> x.ahead(6, 400, true));
        Palace.refused("32 no such what", NONE, x -> x.lack(0, 2, true));
        Palace.refused("32 set", BAD, x -> x.lack(4, 0, true));
        Palace.refused("32 set", BAD, x -> x.lack(-1, 0, true));
        Palace.refused("32 what ahead of set", NONE, x -> x.lack(4, 2, true));
        Palace.refused("32 what ahead of set", NONE, x -> x.lack(-1, -1, false));

        Palace.refused("33 no such kind", NONE, x -> x.more(0, 1, 5, 1));
        Palace.refused("33 no such kind", NONE, x -> x.more(6, 1, 5, 1));
        Palace.refused("33 n", BAD, x -> x.more(1, 0, 5, 1));
        Palace.refused("33 n", BAD, x -> x.more(1, 1000, 5, 1));
        Palace.refused("33 day", BAD, x -> x.more(1, 1, -1, 1));
        Palace.refused("33 day", BAD, x -> x.more(1, 1, 400, 1));
        Palace.refused("33 coin", BAD, x -> x.more(1, 1, 5, -1));
        Palace.refused("33 coin", BAD, x -> x.more(1, 1, 5, 1000));
        Palace.refused("33 full", FULL, allAdditions, x -> x.more(1, 1, 5, 1));
        Palace.refused("33 kind ahead of n", NONE, x -> x.more(6, 0, 5, 1));
        Palace.refused("33 kind ahead of day", NONE, x -> x.more(0, 1, 400, 1));
        Palace.refused("33 kind ahead of coin", NONE, x -> x.more(6, 1, 5, 1000));
        Palace.refused("33 kind ahead of full", NONE, allAdditions, x -> x.more(6, 1, 5, 1));
        Palace.refused("33 n ahead of full", BAD, allAdditions, x -> x.more(1, 0, 5, 1));
        Palace.refused("33 day ahead of full", BAD, allAdditions, x -> x.more(1, 1, 400, 1));
        Palace.refused("33 coin ahead of full", BAD, allAdditions, x -> x.more(1, 1, 5, 1000));
        Palace.refused("34 no set does", ABSENT, x -> x.want(1, 999, 0), x -> x.best());
    }

    private static void nations() {
        Palace.refused("35 no such nation", NONE, x -> x.let(8, 1));
        Palace.refused("35 no such nation", NONE, x -> x.let(-1, 1));
        Palace.refused("35 n: its own run stays", BAD, x -> x.let(1, 0));
        Palace.refused("35 n: its own run stays", BAD, x -> x.let(1, 7));
        Palace.refused("35 nation ahead of n", NONE, x -> x.let(8, 7));
        Palace.refused("36 no such nation", NONE, x -> x.nation(8, 0));
        Palace.refused("36 no such what", NONE, x -> x.nation(0, 3));
        Palace.refused("36 a run that gave way", ABSENT, x -> x.nation(0, 0));
        Palace.refused("37 no such step", NONE, x -> x.unbuild(-2));
        Palace.refused("37 no such step", NONE, x -> x.unbuild(x.unbuild(-1)));
        Palace.refused("38 day", BAD, x -> x.known(400, true));
        Palace.refused("38 day", BAD, x -> x.known(-1, false));
    }

    private static void acts() {
        // An act that is refused leaves no TRACE, but changes nothing else: so it is seen against one without TRACE.
        Palace.Steps noTrace = x -> x.act(-1, 0, 0);
        Palace.refused("39 no such lot", 0, noTrace, x -> x.act(Palace.LOTS, 0, 1));
        Palace.refused("39 no such lot", 0, noTrace, x -> x.act(60, 0, 1));
        Palace.refused("39 no such act", 0, noTrace, x -> x.act(0, 3, 1));
        Palace.refused("39 no such act", 0, noTrace, x -> x.act(0, -1, 1));
        Palace.refused("39 no such lot, no such act", 0, noTrace, x -> x.act(-1, 3, 1));
        Palace.refused("40 no such body", NONE, x -> x.trace(10));
        Palace.refused("40 no such body", NONE, x -> x.trace(-1));
        Palace.refused("41 k", BAD, x -> x.taken(0, 7));
        Palace.refused("41 k", BAD, x -> x.taken(0, -1));
        Palace.refused("41 no such lot", NOTHING, x -> x.taken(Palace.LOTS, 0));
        Palace.refused("41 of another kind", CAST, x -> x.taken(Palace.COLUMNS, 2));
        Palace.refused("41 k ahead of lot", BAD, x -> x.taken(Palace.LOTS, 7));
        Palace.refused("41 k ahead of lot", BAD, x -> x.taken(-1, -1));
        Palace.refused("41 a lot that is none is of no kind either", NOTHING, x -> x.taken(-1, 2));
    }

    private static void lists() {
        Palace.refused("42 no such tape", NO, x -> x.list(6, 0, 1));
        Palace.refused("42 no such tape", NO, x -> x.list(-1, 0, 1));
        Palace.refused("42 n", NO, x -> x.list(0, 0, 0));
        Palace.refused("42 n", NO, x -> x.list(0, 0, 21));
        Palace.refused("42 n, of no row", NO, x -> x.list(5, 0, 0));
        Palace.refused("42 no row of ints", NO + 1, x -> x.list(1, 0, 1));
        Palace.refused("42 n ahead of no row of ints", NO, x -> x.list(1, 0, 21));
        Palace.refused("42 no row of ints ahead of torn", NO + 1, x -> x.list(1, 99, 1));
        Palace.refused("43 what", BAD, x -> x.count(10));
        Palace.refused("43 what", BAD, x -> x.count(-1));
    }

    private static void tapes() {
        Palace.refused("44 no such tape", NONE, x -> x.tape(6, 0, 1));
        Palace.refused("44 no such tape", NONE, x -> x.tape(-1, 0, 1));
        Palace.refused("44 sort", BAD, x -> x.tape(0, 5, 1));
        Palace.refused("44 sort", BAD, x -> x.tape(0, -2, 1));
        Palace.refused("44 n", BAD, x -> x.tape(0, 0, 61));
        Palace.refused("44 a size below 0", SIZE, x -> x.tape(0, 0, -1));
        Palace.refused("44 tape ahead of sort", NONE, x -> x.tape(6, 5, 1));
        Palace.refused("44 tape ahead of n", NONE, x -> x.tape(6, 0, 61));
        Palace.refused("44 tape ahead of size", NONE, x -> x.tape(-1, 0, -1));
        Palace.refused("44 sort ahead of size", BAD, x -> x.tape(0, 5, -1));
        Palace.refused("44 sort ahead of size", BAD, x -> x.tape(0, -2, MIN));
        Palace.refused("44 sort, and n above 60", BAD, x -> x.tape(0, -2, MAX));

        Palace.refused("45 no such tape", NONE, x -> x.item(6, 0, 1));
        Palace.refused("45 nothing is there", NOTHING, x -> x.item(5, 0, 1));
        Palace.refused("45 no such place", PLACE, x -> x.item(0, 6, 1));
        Palace.refused("45 no such place", PLACE, x -> x.item(0, -1, 1));
        Palace.refused("45 no such place in a row of none", PLACE, x -> x.item(4, 0, 1));
        Palace.refused("45 tape ahead of place", NONE, x -> x.item(-1, -1, 1));
        Palace.refused("45 nothing ahead of place", NOTHING, x -> x.item(5, 60, 1));

        Palace.refused("46 no such tape", NO, x -> x.read(6, 0));
        Palace.refused("46 no such tape", NO, x -> x.read(-1, 0));
        Palace.refused("46 nothing there", NO, x -> x.read(5, 0));
        Palace.refused("46 no such place", NO, x -> x.read(0, 6));
        Palace.refused("46 no such place", NO, x -> x.read(0, -1));
        Palace.refused("46 no such place in a row of none", NO, x -> x.read(4, 0));
    }

    private static void shifts() {
        Palace.refused("47 no such tape", NONE, x -> x.shift(6, 0, 0, 1, 2));
        Palace.refused("47 no such tape", NONE, x -> x.shift(-1, 0, 0, 1, 2));
        Palace.refused("47 no such other", NONE, x -> x.shift(0, 0, 6, 1, 2));
        Palace.refused("47 no such other", NONE, x -> x.shift(0, 0, -1, 1, 2));
        Palace.refused("47 nothing there", NOTHING, x -> x.shift(5, 0, 0, 1, 2));
        Palace.refused("47 nothing at the other", NOTHING, x -> x.shift(0, 0, 5, 1, 2));
        Palace.refused("47 nothing at either", NOTHING, x -> x.shift(5, 0, 5, 0, 0));
        Palace.refused("47 of unlike sorts", CAST, x -> x.shift(0, 0, 2, 1, 2));
        Palace.refused("47 n below 0", PLACE, x -> x.shift(0, 1, 0, 2, -1));
        Palace.refused("47 i below 0", PLACE, x -> x.shift(0, -1, 0, 1, 2));
        Palace.refused("47 j below 0", PLACE, x -> x.shift(0, 1, 0, -1, 2));
        Palace.refused("47 beyond its end", PLACE, x -> x.shift(0, 5, 0, 0, 2));
        Palace.refused("47 beyond the other's end", PLACE, x -> x.shift(0, 0, 0, 5, 2));
        Palace.refused("47 beyond both", PLACE, x -> x.shift(0, MAX, 0, MAX, MAX));
        Palace.refused("47 tape ahead of nothing", NONE, x -> x.shift(6, 0, 5, 0, 0));
        Palace.refused("47 other ahead of nothing", NONE, x -> x.shift(5, 0, 6, 0, 0));
        Palace.refused("47 other ahead of place", NONE, x -> x.shift(0, -1, 6, 0, 0));
        Palace.refused("47 nothing ahead of place", NOTHING, x -> x.shift(5, -1, 0, 0, 0));
        Palace.refused("47 nothing at the other ahead of place", NOTHING, x -> x.shift(0, 0, 5, 0, -1));
        Palace.refused("47 unlike sorts ahead of place: n", CAST, x -> x.shift(0, 0, 2, 0, -1));
        Palace.refused("47 unlike sorts ahead of place: i", CAST, x -> x.shift(0, 6, 2, 0, 1));
        Palace.refused("47 unlike sorts ahead of place: j", CAST, x -> x.shift(0, 0, 2, 60, 1));
        Palace.refused("47 unlike sorts, none of either", CAST, x -> x.shift(4, 0, 2, 0, 0));
    }
}
