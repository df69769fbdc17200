/** Promises 27 to 34, edge by edge: gangs, where and how much they work, rows of WANTED, LACK, ADDITIONS, BEST. */
public final class DaysEdgesTest {
    private static final int MIN = Integer.MIN_VALUE, MAX = Integer.MAX_VALUE;

    public static void main(String[] args) {
        gangNumbers();
        tenGangs();
        workNumbers();
        workOfItsKind();
        workByPace();
        workByStock();
        workByRoom();
        oneBayADay();
        oneGangADay();
        besideOfEveryBay();
        girdersBesideEveryBay();
        besideByKinds();
        refusedIsNoWork();
        answersOfFit();
        workOnDayNought();
        workOn399();
        paceByTens();
        paceOfTwenty();
        paceNumbers();
        wantNumbers();
        twentyRows();
        aheadNumbers();
        aheadOfLotsThatCame();
        aheadOfLotsThatWait();
        aheadOf399();
        lackNumbers();
        lackByOne();
        lackOfDayNought();
        lackOf399();
        lackOfTheLeastKind();
        lackOfAllRows();
        lackWithAdditions();
        moreNumbers();
        eightAdditions();
        bestOfNone();
        bestAtTheLatest();
        bestOfFewest();
        bestOfAll();
        Due.end("DaysEdgesTest");
    }

    private static void goTo(GlassPalace x, int day) {
        while (x.count(0) < day) {
            x.pass(Math.min(50, day - x.count(0)));
        }
    }

    /** Lots 0 columns, 1 girders, 2 panes, 3 gutters; gangs 0 to 3 for them, of pace 20; columns in all BAYS. */
    private static GlassPalace site() {
        GlassPalace x = new GlassPalace();
        Due.lot(x, 1, 0, 60, 100);
        Due.lot(x, 2, 0, 60, 999);
        Due.lot(x, 3, 0, 900, 0);
        Due.lot(x, 4, 0, 60, 5);
        for (int place = 1; place <= 4; place++) {
            Due.is("a gang", x.gang(place, 20), place - 1);
        }
        for (int b = 0; b < 30; b++) {
            x.set(0, b);
        }
        return x;
    }

    // ---- 27

    private static void gangNumbers() {
        GlassPalace x = new GlassPalace();
        int[] places = {-1, 0, 5, 6, MIN, MAX};
        int[] paces = {-1, 0, 21, MIN, MAX};
        for (int place : places) {
            Due.is("27 PLACE " + place, x.gang(place, 5), -1);
            Due.is("27 PLACE " + place + ", PACE 21", x.gang(place, 21), -1);
        }
        for (int place = 1; place <= 4; place++) {
            for (int pace : paces) {
                Due.is("27 PLACE " + place + ", PACE " + pace, x.gang(place, pace), -2);
            }
        }
        Due.is("27 no GANGS yet", x.count(4), 0);
        Due.is("27 PLACE 1, PACE 1", x.gang(1, 1), 0);
        Due.is("27 PLACE 4, PACE 20", x.gang(4, 20), 1);
        Due.is("27 PLACE 2, PACE 2", x.gang(2, 2), 2);
        Due.is("27 PLACE 3, PACE 19", x.gang(3, 19), 3);
        int[] due = {1, 20, 2, 19};
        for (int gang = 0; gang < 4; gang++) {
            Due.is("29 PACE of " + gang, x.pace(gang), due[gang]);
        }
    }

    private static void tenGangs() {
        GlassPalace x = new GlassPalace();
        for (int gang = 0; gang < 10; gang++) {
            Due.is("27 GANGS as they come", x.gang(1 + gang % 4, 1 + gang), gang);
            Due.is("43 GANGS", x.count(4), gang + 1);
        }
        Due.is("27 an eleventh", x.gang(1, 1), -4);
        Due.is("27 an eleventh", x.gang(4, 20), -4);
        Due.is("43 GANGS", x.count(4), 10);
        Due.is("29 PACE of the tenth", x.pace(9), 10);
        Due.is("29 PACE of the first", x.pace(0), 1);
    }

    // ---- 28

    private static void workNumbers() {
        GlassPalace x = new GlassPalace();
        int lot = Due.lot(x, 1, 0, 9, 100);
        Due.is("28 no GANGS", x.work(0, 0, lot), -1);
        x.gang(1, 1);
        int[] gangs = {-1, 1, 9, 10, MIN, MAX};
        int[] bays = {-1, 30, MIN, MAX};
        int[] lots = {-1, 1, 59, 60, MIN, MAX};
        for (int gang : gangs) {
            Due.is("28 GANG " + gang, x.work(gang, 0, lot), -1);
        }
        for (int bay : bays) {
            Due.is("28 BAY " + bay, x.work(0, bay, lot), -1);
        }
        for (int l : lots) {
            Due.is("28 LOT " + l, x.work(0, 0, l), -1);
        }
        Due.is("28 BAY 29", x.work(0, 29, lot), 1);
        x.pass(1);
        Due.is("28 BAY 0", x.work(0, 0, lot), 1);
    }

    private static void workOfItsKind() {
        for (int place = 1; place <= 4; place++) {
            GlassPalace x = new GlassPalace();
            x.gang(place, 5);
            for (int kind = 0; kind <= 6; kind++) {
                int lot = Due.lot(x, kind, 0, 9, 100);
                boolean own = kind == place || kind == 6 && place == 1;
                int due = own ? place == 1 ? 1 : -7 : -12;
                x.down(29, 1);
                x.pass(1);
                Due.is("28 a GANG of PLACE " + place + " with KIND " + kind, x.work(0, 29, lot), due);
            }
        }
    }

    private static void workByPace() {
        int[] paces = {1, 2, 9, 19, 20};
        for (int pace : paces) {
            GlassPalace x = site();
            x.set(1, 29);
            x.gang(3, pace);
            Due.is("28 as many as its PACE, " + pace, x.work(4, 29, 2), pace);
            Due.is("13 they stand", x.at(29, 3), pace);
            Due.is("7 they are out of STOCK", x.of(2, 6), 900 - pace);
        }
        GlassPalace x = site();
        Due.is("28 one alone finds room at PLACE 2", x.work(1, 29, 1), 1);
    }

    private static void workByStock() {
        for (int stock = 0; stock <= 3; stock++) {
            GlassPalace x = site();
            x.set(1, 29);
            x.gang(3, 2);
            int panes = Due.lot(x, 3, 1, 5, 0);
            x.sell(panes, 5 - stock);
            Due.is("28 as many as are in STOCK, " + stock, x.work(4, 29, panes), Math.min(2, stock));
            Due.is("7 what is left", x.of(panes, 6), Math.max(0, stock - 2));
        }
        GlassPalace x = site();
        x.set(1, 29);
        x.order(3, 0, 9, 0);
        Due.is("28 WAITED FOR: none in STOCK", x.work(2, 29, 4), 0);
        x.come(4, 0);
        Due.is("28 they came TODAY", x.work(2, 29, 4), 9);
    }

    private static void workByRoom() {
        int[] there = {3, 4, 5, 22, 23, 24};
        int[] due = {20, 20, 19, 2, 1, -4};
        for (int k = 0; k < there.length; k++) {
            GlassPalace x = site();
            x.set(1, 29);
            for (int n = 0; n < there[k]; n++) {
                x.set(2, 29);
            }
            Due.is("28 as many as find room by " + there[k], x.work(2, 29, 2), due[k]);
            Due.is("13 PANES", x.at(29, 3), Math.min(24, there[k] + 20));
        }
    }

    private static void oneBayADay() {
        GlassPalace x = site();
        x.set(1, 29);
        x.set(1, 5);
        Due.is("28 WORK", x.work(2, 29, 2), 20);
        Due.is("28 in another BAY that DAY", x.work(2, 5, 2), -3);
        Due.is("28 in the same BAY that DAY", x.work(2, 29, 2), -3);
        x.pass(1);
        Due.is("28 in another BAY on the next DAY", x.work(2, 5, 2), 20);
        Due.is("28 in the first BAY that DAY", x.work(2, 29, 2), -3);
        x.pass(1);
        Due.is("28 in the first BAY on the next DAY", x.work(2, 29, 2), 4);
    }

    private static void oneGangADay() {
        GlassPalace x = site();
        x.set(1, 29);
        x.gang(3, 1);
        Due.is("28 WORK", x.work(2, 29, 2), 20);
        Due.is("28 a GANG of the same PLACE", x.work(4, 29, 2), -3);
        Due.is("28 a GANG of another PLACE", x.work(3, 29, 3), -3);
        Due.is("28 beside it, no girders", x.work(3, 28, 3), -7);
        x.pass(1);
        Due.is("28 another GANG on the next DAY", x.work(3, 29, 3), 1);
        Due.is("28 the first GANG then", x.work(2, 29, 2), -3);
        Due.is("28 a third then", x.work(4, 29, 2), -3);
        Due.is("12 set() is no WORK", x.set(2, 29), 1);
    }

    private static int apart(int bay, int other) {
        return Math.abs(bay % 6 - other % 6) + Math.abs(bay / 6 - other / 6);
    }

    private static void besideOfEveryBay() {
        for (int b = 0; b < 30; b++) {
            GlassPalace x = site();
            Due.is("28 girders in " + b, x.work(1, b, 1), 1);
            for (int other = 0; other < 30; other++) {
                boolean kept = apart(b, other) <= 1;
                Due.is("28 columns in " + other + " by girders in " + b, x.work(0, other, 0), kept ? -3 : -4);
                Due.is("28 gutters in " + other + " by girders in " + b, x.work(3, other, 3), kept ? -3 : -7);
            }
        }
    }

    private static void girdersBesideEveryBay() {
        for (int b = 0; b < 30; b++) {
            GlassPalace x = site();
            for (int k = 0; k < 30; k++) {
                x.set(1, k);
            }
            x.down(b, 2);
            if (b % 6 > 0) {
                x.down(b - 1, 2);
            }
            x.down(b, 1);
            Due.is("28 a column in " + b, x.work(0, b, 0), 1);
            for (int other = 0; other < 30; other++) {
                Due.is("28 girders in " + other + " by a column in " + b, x.work(1, other, 1),
                    apart(b, other) <= 1 ? -3 : -4);
            }
        }
    }

    /** A GANG in 28, then another one in 29: only girders, of either, keep the other one away. */
    private static void besideByKinds() {
        for (int first = 1; first <= 4; first++) {
            for (int second = 1; second <= 4; second++) {
                GlassPalace x = site();
                x.gang(second, 1);
                if (first == 1) {
                    x.down(28, 1);
                }
                if (first > 2) {
                    x.set(1, 28);
                }
                if (second > 2) {
                    x.set(1, 29);
                }
                String who = "28 KIND " + second + " in 29 by KIND " + first + " in 28";
                int free = second == 1 ? -4 : 1;
                boolean kept = first == 2 || second == 2;
                Due.is(who + ", the first", x.work(first - 1, 28, first - 1), first == 3 ? 20 : 1);
                Due.is(who, x.work(4, 29, second - 1), kept ? -3 : free);
                x.pass(1);
                Due.is(who + ", on the next DAY", x.work(4, 29, second - 1), kept || second == 3 ? free : -4);
            }
        }
    }

    private static void refusedIsNoWork() {
        GlassPalace x = site();
        x.set(1, 29);
        Due.is("28 CAST", x.work(2, 29, 3), -12);
        Due.is("28 no girder", x.work(2, 28, 2), -7);
        Due.is("28 no room", x.work(0, 29, 0), -4);
        Due.is("28 no room for girders", x.work(1, 29, 1), -4);
        Due.is("28 none of these was WORK", x.work(2, 29, 2), 20);
        Due.is("28 STATE", x.work(3, 29, 3), -3);
        Due.is("28 that was no WORK either", x.work(3, 28, 3), -7);
        Due.is("29 PACE of one that never set anything", x.pace(3), 20);
        Due.is("28 nor did the girders keep any away", x.work(1, 17, 1), 1);
    }

    private static void answersOfFit() {
        GlassPalace x = site();
        int columns = Due.lot(x, 1, 1, 9, 99);
        int broken = Due.lot(x, 1, 2, 9, 100);
        int gone = Due.lot(x, 1, 3, 1, 100);
        x.tried(broken, 101);
        x.sell(gone, 1);
        x.down(0, 1);
        x.down(1, 1);
        x.bay(1, 1, 60);
        Due.is("28 fit()'s 0", x.work(0, 0, gone), 0);
        Due.is("28 fit()'s -2", x.work(0, 0, broken), -2);
        Due.is("28 fit()'s -4", x.work(0, 2, 0), -4);
        Due.is("28 fit()'s -5", x.work(0, 0, columns), -5);
        Due.is("28 fit()'s -6", x.work(0, 1, 0), -6);
        Due.is("28 fit()'s -7", x.work(1, 0, 1), -7);
        Due.is("28 none hinders", x.work(0, 0, 0), 1);
    }

    private static void workOnDayNought() {
        GlassPalace x = new GlassPalace();
        Due.lot(x, 1, 0, 9, 100);
        x.gang(1, 5);
        x.gang(1, 5);
        Due.is("28 on DAY 0", x.work(0, 0, 0), 1);
        Due.is("28 twice on DAY 0", x.work(0, 1, 0), -3);
        Due.is("28 another one there on DAY 0", x.work(1, 0, 0), -3);
        Due.is("28 another one beside on DAY 0", x.work(1, 1, 0), 1);
    }

    private static void workOn399() {
        GlassPalace x = site();
        x.set(1, 29);
        goTo(x, 399);
        Due.is("28 on DAY 399", x.work(2, 29, 2), 20);
        Due.is("2 no DAY goes by", x.pass(1), -2);
        Due.is("28 twice on DAY 399", x.work(2, 29, 2), -3);
    }

    // ---- 29

    private static void paceByTens() {
        int[] set = {1, 8, 9, 10, 11, 19, 20};
        int[] due = {1, 1, 1, 2, 2, 2, 3};
        for (int k = 0; k < set.length; k++) {
            GlassPalace x = site();
            for (int b = 0; b < 20; b++) {
                x.down(b, 1);
            }
            x.gang(1, 1);
            for (int n = 0; n < set[k]; n++) {
                Due.is("28 one column", x.work(4, n, 0), 1);
                x.pass(1);
            }
            Due.is("29 PACE behind " + set[k] + " PIECES", x.pace(4), due[k]);
        }
    }

    private static void paceOfTwenty() {
        GlassPalace x = site();
        for (int b = 0; b < 6; b++) {
            x.set(1, b);
        }
        x.gang(3, 18);
        int[] set = {18, 6, 20, 4, 20, 4};
        int[] due = {19, 20, 20, 20, 20, 20};
        for (int k = 0; k < set.length; k++) {
            Due.is("28 WORK " + k, x.work(4, k / 2, 2), set[k]);
            Due.is("29 PACE behind it", x.pace(4), due[k]);
            x.pass(1);
        }
        Due.is("28 20 at most", x.work(4, 3, 2), 20);
        Due.is("29 20 at most", x.pace(4), 20);
    }

    private static void paceNumbers() {
        GlassPalace x = new GlassPalace();
        int[] none = {-1, 0, 9, 10, MIN, MAX};
        for (int gang : none) {
            Due.is("29 GANG " + gang, x.pace(gang), -1);
        }
        x.gang(1, 7);
        Due.is("29 GANG 0", x.pace(0), 7);
        Due.is("29 GANG 1", x.pace(1), -1);
    }

    // ---- 30

    private static void wantNumbers() {
        GlassPalace x = new GlassPalace();
        int[] kinds = {-1, 0, 6, 7, MIN, MAX};
        int[] numbers = {-1, 0, 1000, MIN, MAX};
        int[] days = {-1, 400, MIN, MAX};
        for (int kind : kinds) {
            Due.is("30 KIND " + kind, x.want(kind, 1, 0), -1);
            Due.is("30 KIND " + kind + ", n 0", x.want(kind, 0, 0), -1);
            Due.is("30 KIND " + kind + ", DAY 400", x.want(kind, 1, 400), -1);
        }
        for (int n : numbers) {
            Due.is("30 n " + n, x.want(1, n, 0), -2);
            Due.is("30 n " + n, x.want(5, n, 399), -2);
        }
        for (int day : days) {
            Due.is("30 DAY " + day, x.want(1, 1, day), -2);
            Due.is("30 DAY " + day, x.want(5, 999, day), -2);
        }
        Due.is("43 no rows", x.count(5), 0);
        Due.is("30 KIND 1, n 1, DAY 0", x.want(1, 1, 0), 1);
        Due.is("30 KIND 5, n 999, DAY 399", x.want(5, 999, 399), 2);
    }

    private static void twentyRows() {
        GlassPalace x = new GlassPalace();
        for (int row = 1; row <= 20; row++) {
            Due.is("30 rows", x.want(2, 1, 20 - row), row);
        }
        Due.is("30 a 21st", x.want(2, 1, 0), -4);
        Due.is("30 a 21st", x.want(5, 999, 399), -4);
        Due.is("43 rows", x.count(5), 20);
        Due.is("32 the last row counts", x.lack(0, 0, true), 0);
        x.order(2, 0, 19, 0);
        x.come(0, 0);
        Due.is("32 all 20 by DAY 19, 19 came", x.lack(0, 0, true), 19);
        x.order(2, 0, 1, 0);
        x.come(1, 0);
        Due.is("32 20 came", x.lack(0, 0, true), -5);
    }

    // ---- 31

    private static void aheadNumbers() {
        GlassPalace x = new GlassPalace();
        int[] kinds = {-1, 0, 6, 7, MIN, MAX};
        int[] days = {-1, 400, MIN, MAX};
        for (int kind : kinds) {
            Due.is("31 KIND " + kind, x.ahead(kind, 0, true), -1);
            Due.is("31 KIND " + kind + ", DAY 400", x.ahead(kind, 400, false), -1);
        }
        for (int day : days) {
            Due.is("31 DAY " + day, x.ahead(1, day, true), -2);
            Due.is("31 DAY " + day, x.ahead(5, day, false), -2);
        }
        for (int kind = 0; kind <= 6; kind++) {
            x.come(x.order(kind, 0, 1 << kind, 0), 0);
        }
        for (int kind = 1; kind <= 5; kind++) {
            Due.is("31 KIND " + kind + " alone, no WRONG ones", x.ahead(kind, 0, true), 1 << kind);
            Due.is("31 KIND " + kind + " alone, no WRONG ones", x.ahead(kind, 399, false), 1 << kind);
        }
    }

    private static void aheadOfLotsThatCame() {
        GlassPalace x = new GlassPalace();
        x.order(5, 0, 7, 0);
        x.pass(20);
        x.come(0, 18);
        Due.is("31 the DAY ahead", x.ahead(5, 17, true), 0);
        Due.is("31 the DAY ahead, at the soonest", x.ahead(5, 17, false), 0);
        Due.is("31 the DAY on which it came", x.ahead(5, 18, true), 7);
        Due.is("31 the DAY on which it came, at the soonest", x.ahead(5, 18, false), 7);
        x.set(0, 0);
        x.tried(0, 101);
        x.sell(0, 5);
        Due.is("31 set, broken and sold ones came, too", x.ahead(5, 18, true), 7);
    }

    private static void aheadOfLotsThatWait() {
        int[][] spans = {{1, 1}, {1, 60}, {60, 60}, {7, 14}};
        for (int[] span : spans) {
            GlassPalace x = new GlassPalace();
            x.foundry(7, span[0], span[1]);
            x.pass(10);
            x.order(5, 7, 7, 0);
            Due.is("31 LEAST " + span[0] + ", the DAY ahead", x.ahead(5, 9 + span[0], false), 0);
            Due.is("31 LEAST " + span[0], x.ahead(5, 10 + span[0], false), 7);
            Due.is("31 LATEST " + span[1] + ", the DAY ahead", x.ahead(5, 9 + span[1], true), 0);
            Due.is("31 LATEST " + span[1], x.ahead(5, 10 + span[1], true), 7);
            goTo(x, 100);
            Due.is("31 LATEST " + span[1] + ", though it has not come by then", x.ahead(5, 10 + span[1], true), 7);
            x.come(0, 90);
            Due.is("31 it came, later than that", x.ahead(5, 89, true), 0);
            Due.is("31 it came, later than that", x.ahead(5, 90, true), 7);
        }
    }

    private static void aheadOf399() {
        GlassPalace x = new GlassPalace();
        goTo(x, 385);
        x.order(5, 0, 1, 0);
        x.pass(1);
        x.order(5, 0, 2, 0);
        x.pass(6);
        x.order(5, 0, 4, 0);
        x.pass(1);
        x.order(5, 0, 8, 0);
        Due.is("31 by 399 at the latest: that of 385", x.ahead(5, 399, true), 1);
        Due.is("31 by 399 at the soonest: those of 385, 386, 392", x.ahead(5, 399, false), 7);
    }

    // ---- 32

    private static void lackNumbers() {
        GlassPalace x = new GlassPalace();
        int[] whats = {-1, 2, MIN, MAX};
        int[] sets = {-1, 1, 256, MIN, MAX};
        for (int what : whats) {
            Due.is("32 what " + what, x.lack(0, what, true), -1);
            Due.is("32 what " + what + ", set -1", x.lack(-1, what, false), -1);
        }
        for (int set : sets) {
            Due.is("32 no ADDITIONS, set " + set, x.lack(set, 0, true), -2);
        }
        Due.is("32 no row of WANTED", x.lack(0, 0, true), -5);
        Due.is("32 no row of WANTED", x.lack(0, 1, false), -5);
        for (int n = 1; n <= 8; n++) {
            x.more(1, 1, 0, 0);
            Due.is("32 all of " + n, x.lack((1 << n) - 1, 0, true), -5);
            Due.is("32 one more than " + n, x.lack(1 << n, 0, true), -2);
        }
    }

    private static void lackByOne() {
        int[] wanted = {9, 10, 11, 999};
        for (int n : wanted) {
            GlassPalace x = new GlassPalace();
            x.come(x.order(3, 0, 10, 0), 0);
            x.want(3, n, 50);
            boolean lack = n > 10;
            Due.is("32 " + n + " WANTED, 10 came", x.lack(0, 0, true), lack ? 50 : -5);
            Due.is("32 " + n + " WANTED, 10 came: the KIND", x.lack(0, 1, true), lack ? 3 : -5);
        }
    }

    private static void lackOfDayNought() {
        GlassPalace x = new GlassPalace();
        x.want(1, 1, 0);
        Due.is("32 DAY 0", x.lack(0, 0, true), 0);
        Due.is("32 DAY 0, KIND 1", x.lack(0, 1, true), 1);
        Due.is("32 DAY 0, at the soonest", x.lack(0, 0, false), 0);
        x.come(x.order(1, 0, 1, 0), 0);
        Due.is("32 it came on DAY 0", x.lack(0, 0, true), -5);
    }

    private static void lackOf399() {
        GlassPalace x = new GlassPalace();
        x.want(5, 1, 399);
        Due.is("32 DAY 399", x.lack(0, 0, true), 399);
        Due.is("32 DAY 399, KIND 5", x.lack(0, 1, true), 5);
        goTo(x, 385);
        x.order(5, 0, 1, 0);
        Due.is("32 it will have come on 399", x.lack(0, 0, true), -5);
        x.want(5, 1, 399);
        x.pass(1);
        x.order(5, 0, 1, 0);
        Due.is("32 one day too late", x.lack(0, 0, true), 399);
        Due.is("32 but not at the soonest", x.lack(0, 0, false), -5);
    }

    private static void lackOfTheLeastKind() {
        GlassPalace x = new GlassPalace();
        for (int kind = 5; kind >= 1; kind--) {
            x.want(kind, 1, 100);
            Due.is("32 the least such KIND", x.lack(0, 1, true), kind);
            Due.is("32 the DAY", x.lack(0, 0, true), 100);
        }
        x.want(4, 1, 99);
        Due.is("32 the first DAY goes ahead of the least KIND", x.lack(0, 0, true), 99);
        Due.is("32 the KIND of that DAY", x.lack(0, 1, true), 4);
        x.want(5, 1, 99);
        Due.is("32 the least of two that came in this order", x.lack(0, 1, true), 4);
        x.want(3, 1, 99);
        Due.is("32 the least of three that came in this order", x.lack(0, 1, true), 3);
    }

    private static void lackOfAllRows() {
        GlassPalace x = new GlassPalace();
        x.come(x.order(2, 0, 10, 0), 0);
        x.want(2, 4, 30);
        x.want(2, 3, 20);
        x.want(2, 3, 10);
        Due.is("32 all together 10", x.lack(0, 0, true), -5);
        x.want(2, 1, 399);
        Due.is("32 all together 11", x.lack(0, 0, true), 399);
        x.want(2, 1, 20);
        Due.is("32 11 by DAY 30", x.lack(0, 0, true), 30);
        x.want(2, 3, 0);
        Due.is("32 14 by DAY 30, 10 by DAY 20", x.lack(0, 0, true), 30);
        x.want(2, 1, 0);
        Due.is("32 11 by DAY 20", x.lack(0, 0, true), 20);
        x.want(3, 1, 20);
        Due.is("32 another KIND that DAY", x.lack(0, 1, true), 2);
    }

    private static void lackWithAdditions() {
        GlassPalace x = new GlassPalace();
        x.want(2, 5, 10);
        x.more(2, 5, 10, 1);
        x.more(2, 5, 11, 1);
        x.more(2, 4, 10, 1);
        x.more(2, 1, 0, 1);
        x.more(3, 5, 0, 1);
        Due.is("32 by its DAY", x.lack(1, 0, true), -5);
        Due.is("32 one DAY too late", x.lack(2, 0, true), 10);
        Due.is("32 one too few", x.lack(4, 0, true), 10);
        Due.is("32 two together", x.lack(12, 0, true), -5);
        Due.is("32 of another KIND", x.lack(16, 0, true), 10);
        Due.is("32 all of them", x.lack(31, 0, false), -5);
        Due.is("32 without any", x.lack(0, 0, false), 10);
        x.want(2, 1, 11);
        Due.is("32 then the next DAY", x.lack(1, 0, true), 11);
        Due.is("32 one that comes on it", x.lack(3, 0, true), -5);
    }

    // ---- 33

    private static void moreNumbers() {
        GlassPalace x = new GlassPalace();
        int[] kinds = {-1, 0, 6, 7, MIN, MAX};
        int[] numbers = {-1, 0, 1000, MIN, MAX};
        int[] days = {-1, 400, MIN, MAX};
        int[] coins = {-1, 1000, MIN, MAX};
        for (int kind : kinds) {
            Due.is("33 KIND " + kind, x.more(kind, 1, 0, 0), -1);
            Due.is("33 KIND " + kind + ", all else wrong", x.more(kind, 0, 400, 1000), -1);
        }
        for (int n : numbers) {
            Due.is("33 n " + n, x.more(1, n, 0, 0), -2);
        }
        for (int day : days) {
            Due.is("33 DAY " + day, x.more(1, 1, day, 0), -2);
        }
        for (int coin : coins) {
            Due.is("33 COIN " + coin, x.more(1, 1, 0, coin), -2);
        }
        Due.is("43 no ADDITIONS", x.count(6), 0);
        Due.is("33 the least", x.more(1, 1, 0, 0), 0);
        Due.is("33 the greatest", x.more(5, 999, 399, 999), 1);
        x.want(5, 999, 399);
        Due.is("32 the greatest is enough", x.lack(2, 0, true), -5);
        Due.is("34 the greatest is enough", x.best(), 2);
    }

    private static void eightAdditions() {
        GlassPalace x = new GlassPalace();
        for (int k = 0; k < 8; k++) {
            Due.is("33 ADDITIONS as they come", x.more(1, 1, 0, 999), k);
            Due.is("43 ADDITIONS", x.count(6), k + 1);
        }
        Due.is("33 a ninth", x.more(1, 1, 0, 0), -4);
        Due.is("33 a ninth", x.more(5, 999, 399, 999), -4);
        Due.is("43 ADDITIONS", x.count(6), 8);
    }

    // ---- 34

    private static void bestOfNone() {
        GlassPalace x = new GlassPalace();
        Due.is("34 nothing is WANTED, no ADDITIONS", x.best(), 0);
        x.more(1, 1, 0, 0);
        Due.is("34 nothing is WANTED: no ADDITION, though it costs nothing", x.best(), 0);
        x.want(2, 1, 0);
        Due.is("34 no set does", x.best(), -5);
        x.come(x.order(2, 0, 1, 0), 0);
        Due.is("34 no LACK: none", x.best(), 0);
        x.want(1, 1, 0);
        Due.is("34 the one for nothing", x.best(), 1);
        GlassPalace y = new GlassPalace();
        y.want(1, 1, 399);
        Due.is("34 no ADDITIONS and a LACK", y.best(), -5);
        y.order(1, 0, 1, 0);
        Due.is("34 it will have come", y.best(), 0);
    }

    private static void bestAtTheLatest() {
        GlassPalace x = new GlassPalace();
        x.order(1, 0, 3, 100);
        x.want(1, 3, 13);
        Due.is("32 no LACK at the soonest", x.lack(0, 0, false), -5);
        Due.is("34 a LACK at the latest: no set does", x.best(), -5);
        x.more(1, 3, 13, 999);
        Due.is("34 a LACK at the latest", x.best(), 1);
        x.foundry(0, 1, 13);
        Due.is("34 no LACK at the latest", x.best(), 0);
    }

    private static void bestOfFewest() {
        GlassPalace x = new GlassPalace();
        x.want(1, 2, 9);
        x.more(1, 1, 9, 0);
        x.more(1, 1, 9, 0);
        Due.is("34 two for nothing", x.best(), 3);
        x.more(1, 2, 9, 0);
        Due.is("34 of several for nothing that of the fewest", x.best(), 4);
        x.more(1, 2, 9, 0);
        Due.is("34 of several of the fewest the least as bits", x.best(), 4);
        x.more(1, 2, 10, 0);
        Due.is("34 a day too late", x.best(), 4);
        GlassPalace y = new GlassPalace();
        y.want(1, 2, 9);
        y.more(1, 2, 9, 3);
        y.more(1, 1, 9, 1);
        y.more(1, 1, 9, 1);
        Due.is("34 least COIN goes ahead of the fewest", y.best(), 6);
        y.more(1, 2, 9, 2);
        Due.is("34 of as much COIN the fewest, though greater as bits", y.best(), 8);
    }

    private static void bestOfAll() {
        GlassPalace x = new GlassPalace();
        x.want(1, 8, 0);
        for (int k = 0; k < 8; k++) {
            Due.is("34 not enough yet", x.best(), -5);
            x.more(1, 1, 0, 999);
        }
        Due.is("34 all eight, 7992 COIN", x.best(), 255);
        x.come(x.order(1, 0, 1, 0), 0);
        Due.is("34 all but the greatest as bits", x.best(), 127);
        x.want(2, 1, 0);
        Due.is("34 no set does any more", x.best(), -5);
    }
}
