/** Promises 1 to 9, edge by edge: the new object, days, ground, foundries, orders, coming, trying, selling. */
public final class SiteEdgesTest {
    private static final int MIN = Integer.MIN_VALUE, MAX = Integer.MAX_VALUE;

    public static void main(String[] args) {
        newGround();
        newBooks();
        newObjectsShareNothing();
        passAsFarAsItGoes();
        passOver399();
        levels();
        trees();
        whatOfABay();
        somethingStands();
        foundryDays();
        everyFoundryAtFirst();
        foundryOfLotsThatWait();
        kindsAndFoundries();
        piecesAndNumbers();
        sixtyLots();
        orderedOn399();
        comeDays();
        comeOnDayNought();
        comeOn399();
        whatOfALot();
        toldOnItsDay();
        paid();
        triedLoads();
        triedGirders();
        triedToTheLast();
        triedBars();
        soldNumbers();
        soldToTheLast();
        Due.end("SiteEdgesTest");
    }

    private static void goTo(GlassPalace x, int day) {
        while (x.count(0) < day) {
            x.pass(Math.min(50, day - x.count(0)));
        }
    }

    // ---- 1

    private static void newGround() {
        GlassPalace x = new GlassPalace();
        for (int b = 0; b < 30; b++) {
            Due.is("1 LEVEL of " + b + " at first", x.bay(b, 0, 0), 0);
            Due.is("1 TREE of " + b + " at first", x.bay(b, 1, 0), 0);
            Due.is("1 wants(" + b + ") at first", x.wants(b), 100);
            for (int place = 1; place <= 5; place++) {
                Due.is("1 at(" + b + ", " + place + ") at first", x.at(b, place), place == 3 ? 0 : -5);
            }
            Due.is("1 PEOPLE of " + b + " at first", x.people(b, 0), 0);
            Due.is("1 leaks(" + b + ") at first", x.leaks(b), 0);
            Due.is("1 stands(" + b + ", 23) at first", x.stands(b, 23), 0);
        }
        Due.is("1 breaks() at first", x.breaks(), 0);
        Due.is("1 leaks(-1) at first", x.leaks(-1), 0);
        Due.is("1 unbuild(-1) at first", x.unbuild(-1), 0);
    }

    private static void newBooks() {
        GlassPalace x = new GlassPalace();
        for (int what = 0; what <= 9; what++) {
            Due.is("1 count(" + what + ") at first", x.count(what), 0);
        }
        for (int lot = 0; lot < 60; lot++) {
            Due.is("1 no LOT " + lot, x.of(lot, 0), -1);
        }
        for (int gang = 0; gang < 10; gang++) {
            Due.is("1 no GANG " + gang, x.pace(gang), -1);
        }
        int[] without = {0, 10, 3, 2, 0, 0};
        for (int word = 0; word < 6; word++) {
            Due.is("1 no LAW of word " + word, x.force(word, 0, 0), without[word]);
            Due.is("1 no LAW of word " + word, x.why(word, 399), -5);
        }
        for (int tape = 0; tape < 6; tape++) {
            Due.is("1 TAPE " + tape + " holds nothing", x.item(tape, 0, 0), -11);
            Due.is("1 TAPE " + tape + " holds nothing", x.read(tape, 0), Long.MIN_VALUE);
        }
        for (int nation = 0; nation < 8; nation++) {
            Due.is("1 no RUN of " + nation, x.nation(nation, 0), -5);
            Due.is("1 no RUN of " + nation, x.nation(nation, 1), 0);
        }
        Due.is("1 known(399, false) at first", x.known(399, false), 0);
        Due.is("1 known(399, true) at first", x.known(399, true), 0);
        Due.is("1 best() at first", x.best(), 0);
        Due.is("1 lack(0, 0, true) at first", x.lack(0, 0, true), -5);
        Due.is("1 trace(0) at first", x.trace(0), -1);
        for (int hour = 0; hour < 24; hour++) {
            Due.is("1 RAIN of " + hour + " at first", x.rain(hour, 0), 0);
        }
    }

    private static void newObjectsShareNothing() {
        GlassPalace used = Palace.built();
        newGround();
        newBooks();
        Due.is("1 the used one", used.count(1), Palace.LOTS);
        Due.is("1 the used one", used.wants(0), 94);
    }

    // ---- 2

    private static void passAsFarAsItGoes() {
        GlassPalace x = new GlassPalace();
        Due.is("2 n DAYS: -1", x.pass(-1), -2);
        Due.is("2 n DAYS: 0", x.pass(0), -2);
        Due.is("2 n DAYS: 51", x.pass(51), -2);
        Due.is("2 TODAY", x.count(0), 0);
        Due.is("2 n DAYS: 1", x.pass(1), 1);
        Due.is("2 n DAYS: 50", x.pass(50), 51);
        Due.is("2 n DAYS: 49", x.pass(49), 100);
        Due.is("2 n DAYS: 2", x.pass(2), 102);
        Due.is("2 n DAYS: the least int", x.pass(MIN), -2);
        Due.is("2 n DAYS: the greatest int", x.pass(MAX), -2);
        Due.is("2 TODAY", x.count(0), 102);
    }

    private static void passOver399() {
        GlassPalace x = new GlassPalace();
        goTo(x, 349);
        Due.is("2 TODAY", x.count(0), 349);
        Due.is("2 from 349 to 399 at once", x.pass(50), 399);
        for (int n = 0; n <= 51; n++) {
            Due.is("2 at 399 pass(" + n + ")", x.pass(n), -2);
        }
        Due.is("2 TODAY stays 399", x.count(0), 399);
        x = new GlassPalace();
        goTo(x, 350);
        Due.is("2 from 350 to 400", x.pass(50), -2);
        Due.is("2 TODAY stays 350", x.count(0), 350);
        Due.is("2 from 350 to 399", x.pass(49), 399);
        x = new GlassPalace();
        goTo(x, 398);
        Due.is("2 from 398 to 400", x.pass(2), -2);
        Due.is("2 from 398 to 399", x.pass(1), 399);
    }

    // ---- 3

    private static void levels() {
        GlassPalace x = new GlassPalace();
        int[] bays = {0, 5, 6, 29};
        for (int b : bays) {
            Due.is("3 LEVEL -1 of " + b, x.bay(b, 0, -1), -2);
            Due.is("3 LEVEL 21 of " + b, x.bay(b, 0, 21), -2);
            Due.is("3 LEVEL 61 of " + b, x.bay(b, 0, 61), -2);
            Due.is("3 LEVEL 20 of " + b, x.bay(b, 0, 20), 0);
            Due.is("3 LEVEL 19 of " + b, x.bay(b, 0, 19), 20);
            Due.is("3 LEVEL 1 of " + b, x.bay(b, 0, 1), 19);
            Due.is("3 LEVEL 0 of " + b, x.bay(b, 0, 0), 1);
            Due.is("3 TREE of " + b + " is another number", x.bay(b, 1, 0), 0);
        }
        Due.is("3 LEVEL of no BAY: -1", x.bay(-1, 0, 1), -1);
        Due.is("3 LEVEL of no BAY: 30", x.bay(30, 0, 1), -1);
        Due.is("3 LEVEL of no BAY: the least int", x.bay(MIN, 0, 1), -1);
        Due.is("3 LEVEL of no BAY: the greatest int", x.bay(MAX, 0, 1), -1);
        Due.is("3 LEVEL, the least int", x.bay(0, 0, MIN), -2);
        Due.is("3 LEVEL, the greatest int", x.bay(0, 0, MAX), -2);
    }

    private static void trees() {
        GlassPalace x = new GlassPalace();
        int[] bays = {0, 5, 6, 29};
        for (int b : bays) {
            Due.is("3 TREE -1 of " + b, x.bay(b, 1, -1), -2);
            Due.is("3 TREE 61 of " + b, x.bay(b, 1, 61), -2);
            Due.is("3 TREE 60 of " + b, x.bay(b, 1, 60), 0);
            Due.is("3 TREE 59 of " + b, x.bay(b, 1, 59), 60);
            Due.is("3 TREE 21 of " + b, x.bay(b, 1, 21), 59);
            Due.is("3 TREE 1 of " + b, x.bay(b, 1, 1), 21);
            Due.is("3 TREE 0 of " + b, x.bay(b, 1, 0), 1);
            Due.is("3 LEVEL of " + b + " is another number", x.bay(b, 0, 0), 0);
        }
        Due.is("3 TREE of no BAY: -1", x.bay(-1, 1, 1), -1);
        Due.is("3 TREE of no BAY: 30", x.bay(30, 1, 1), -1);
        Due.is("3 TREE, the least int", x.bay(0, 1, MIN), -2);
        Due.is("3 TREE, the greatest int", x.bay(0, 1, MAX), -2);
    }

    private static void whatOfABay() {
        GlassPalace x = new GlassPalace();
        Due.is("3 what -1", x.bay(0, -1, 5), -1);
        Due.is("3 what 2", x.bay(0, 2, 5), -1);
        Due.is("3 what, the least int", x.bay(0, MIN, 5), -1);
        Due.is("3 what, the greatest int", x.bay(0, MAX, 5), -1);
        Due.is("3 LEVEL is as it was", x.bay(0, 0, 0), 0);
        Due.is("3 TREE is as it was", x.bay(0, 1, 0), 0);
    }

    private static void somethingStands() {
        GlassPalace x = new GlassPalace();
        int columns = Due.lot(x, 1, 0, 9, 100);
        int wrong = Due.lot(x, 6, 0, 9, 100);
        int odd = Due.lot(x, 5, 0, 9, 0);
        int[] lots = {columns, wrong, odd};
        for (int k = 0; k < lots.length; k++) {
            Due.is("3 set", x.set(lots[k], 10 + k), 1);
            Due.is("3 LEVEL where a piece of lot " + k + " stands", x.bay(10 + k, 0, 1), -3);
            Due.is("3 LEVEL as it is, where one stands", x.bay(10 + k, 0, 0), -3);
            Due.is("3 TREE where a piece of lot " + k + " stands", x.bay(10 + k, 1, 1), -3);
            Due.is("3 TREE as it is, where one stands", x.bay(10 + k, 1, 0), -3);
        }
        Due.is("3 nothing stands to the right", x.bay(13, 0, 2), 0);
        Due.is("3 nothing stands to the left", x.bay(9, 1, 2), 0);
        Due.is("3 nothing stands behind", x.bay(16, 0, 2), 0);
        Due.is("3 nothing stands ahead", x.bay(4, 1, 2), 0);
        Due.is("3 it is taken down", x.down(10, 1), columns);
        Due.is("3 LEVEL when it is taken down", x.bay(10, 0, 7), 0);
        Due.is("3 TREE when it is taken down", x.bay(10, 1, 7), 0);
        Due.is("3 an odd one", x.down(12, 5), odd);
        Due.is("3 LEVEL when it is taken down", x.bay(12, 0, 7), 0);
    }

    // ---- 4

    private static void foundryDays() {
        GlassPalace x = new GlassPalace();
        int[] foundries = {0, 7};
        for (int f : foundries) {
            Due.is("4 LEAST 0", x.foundry(f, 0, 1), -2);
            Due.is("4 LEAST 0, LATEST 0", x.foundry(f, 0, 0), -2);
            Due.is("4 LEAST -1", x.foundry(f, -1, 60), -2);
            Due.is("4 LATEST 61", x.foundry(f, 60, 61), -2);
            Due.is("4 both 61", x.foundry(f, 61, 61), -2);
            Due.is("4 LEAST one above LATEST", x.foundry(f, 2, 1), -2);
            Due.is("4 LEAST one above LATEST", x.foundry(f, 60, 59), -2);
            Due.is("4 LEAST, the least int", x.foundry(f, MIN, 5), -2);
            Due.is("4 LATEST, the greatest int", x.foundry(f, 5, MAX), -2);
            Due.is("4 LEAST 1, LATEST 1", x.foundry(f, 1, 1), 1);
            Due.is("4 LEAST 60, LATEST 60", x.foundry(f, 60, 60), 1);
            Due.is("4 LEAST 1, LATEST 60", x.foundry(f, 1, 60), 1);
            Due.is("4 LEAST 59, LATEST 60", x.foundry(f, 59, 60), 1);
        }
        Due.is("4 FOUNDRY -1", x.foundry(-1, 1, 1), -1);
        Due.is("4 FOUNDRY 8", x.foundry(8, 1, 1), -1);
        Due.is("4 FOUNDRY, the least int", x.foundry(MIN, 1, 1), -1);
        Due.is("4 FOUNDRY, the greatest int", x.foundry(MAX, 1, 1), -1);
    }

    private static void everyFoundryAtFirst() {
        GlassPalace x = new GlassPalace();
        for (int f = 0; f < 8; f++) {
            x.order(5, f, 1 << f, 0);
            x.order(1 + f % 4, f, 1 << f, 0);
        }
        Due.is("4 7 days at first: on the 6th none", x.ahead(5, 6, false), 0);
        Due.is("4 7 days at first: on the 7th all", x.ahead(5, 7, false), 255);
        Due.is("4 14 days at first: on the 13th none", x.ahead(5, 13, true), 0);
        Due.is("4 14 days at first: on the 14th all", x.ahead(5, 14, true), 255);
        for (int f = 0; f < 8; f++) {
            x.foundry(f, 20 + f, 30 + f);
        }
        for (int f = 0; f < 8; f++) {
            Due.is("4 LEAST of " + f + " is its own", x.ahead(5, 20 + f, false), (2 << f) - 1);
            Due.is("4 LATEST of " + f + " is its own", x.ahead(5, 30 + f, true), (2 << f) - 1);
        }
    }

    private static void foundryOfLotsThatWait() {
        GlassPalace x = new GlassPalace();
        x.order(1, 2, 5, 100);
        x.pass(10);
        x.foundry(2, 3, 4);
        Due.is("4 days that are told later hold for what was ordered, too", x.ahead(1, 3, false), 5);
        Due.is("4 the day ahead of it", x.ahead(1, 2, false), 0);
        Due.is("4 at the latest", x.ahead(1, 4, true), 5);
        Due.is("4 at the latest, the day ahead", x.ahead(1, 3, true), 0);
    }

    // ---- 5

    private static void kindsAndFoundries() {
        GlassPalace x = new GlassPalace();
        Due.is("5 KIND -1", x.order(-1, 0, 1, 0), -1);
        Due.is("5 KIND 7", x.order(7, 0, 1, 0), -1);
        Due.is("5 KIND, the least int", x.order(MIN, 0, 1, 0), -1);
        Due.is("5 KIND, the greatest int", x.order(MAX, 0, 1, 0), -1);
        Due.is("5 FOUNDRY -1", x.order(0, -1, 1, 0), -1);
        Due.is("5 FOUNDRY 8", x.order(0, 8, 1, 0), -1);
        Due.is("5 FOUNDRY, the least int", x.order(0, MIN, 1, 0), -1);
        Due.is("5 FOUNDRY, the greatest int", x.order(0, MAX, 1, 0), -1);
        for (int kind = 0; kind <= 6; kind++) {
            Due.is("5 KIND " + kind, x.order(kind, 7 - kind, 1, 0), kind);
            Due.is("5 KIND " + kind, x.of(kind, 0), kind);
            Due.is("5 FOUNDRY " + (7 - kind), x.of(kind, 1), 7 - kind);
        }
        Due.is("5 FOUNDRY 0", x.order(0, 0, 1, 0), 7);
        Due.is("5 FOUNDRY 0", x.of(7, 1), 0);
    }

    private static void piecesAndNumbers() {
        GlassPalace x = new GlassPalace();
        Due.is("5 PIECES 0", x.order(1, 0, 0, 0), -2);
        Due.is("5 PIECES -1", x.order(1, 0, -1, 0), -2);
        Due.is("5 PIECES 1000", x.order(1, 0, 1000, 0), -2);
        Due.is("5 PIECES, the least int", x.order(1, 0, MIN, 0), -2);
        Due.is("5 PIECES, the greatest int", x.order(1, 0, MAX, 0), -2);
        Due.is("5 v -1", x.order(1, 0, 1, -1), -2);
        Due.is("5 v 1000", x.order(1, 0, 1, 1000), -2);
        Due.is("5 v, the least int", x.order(1, 0, 1, MIN), -2);
        Due.is("5 v, the greatest int", x.order(1, 0, 1, MAX), -2);
        Due.is("5 LOTS as they were", x.count(1), 0);
        int[][] right = {{1, 0}, {2, 1}, {998, 998}, {999, 999}};
        for (int k = 0; k < right.length; k++) {
            Due.is("5 PIECES " + right[k][0], x.order(1, 0, right[k][0], right[k][1]), k);
            Due.is("5 PIECES " + right[k][0], x.of(k, 2), right[k][0]);
            Due.is("5 v " + right[k][1], x.of(k, 3), right[k][1]);
        }
    }

    private static void sixtyLots() {
        GlassPalace x = new GlassPalace();
        for (int lot = 0; lot < 60; lot++) {
            Due.is("5 LOTS as they come", x.order(lot % 7, lot % 8, 1 + lot, 999 - lot), lot);
        }
        Due.is("5 FULL: a 61st", x.order(0, 0, 1, 0), -4);
        Due.is("5 FULL: a 61st", x.order(6, 7, 999, 999), -4);
        Due.is("5 LOTS", x.count(1), 60);
        for (int lot = 0; lot < 60; lot++) {
            Due.is("5 KIND of " + lot, x.of(lot, 0), lot % 7);
            Due.is("5 PIECES of " + lot, x.of(lot, 2), 1 + lot);
            Due.is("5 v of " + lot, x.of(lot, 3), 999 - lot);
        }
        Due.is("5 the last one comes", x.come(59, 0), 1);
        Due.is("5 FULL still when one came", x.order(0, 0, 1, 0), -4);
        Due.is("5 all are sold", x.sell(59, 60), 0);
        Due.is("5 FULL still when it is sold", x.order(0, 0, 1, 0), -4);
    }

    private static void orderedOn399() {
        GlassPalace x = new GlassPalace();
        goTo(x, 399);
        Due.is("5 ordered on 399", x.order(1, 0, 7, 100), 0);
        Due.is("5 its DAY", x.of(0, 4), 399);
        Due.is("31 at the soonest it comes behind all days", x.ahead(1, 399, false), 0);
        Due.is("5 not told", x.of(0, 5), -5);
        Due.is("6 it came on 399", x.come(0, 399), 1);
        Due.is("6 in STOCK", x.of(0, 6), 7);
        Due.is("31 it came", x.ahead(1, 399, true), 7);
    }

    // ---- 6

    private static void comeDays() {
        GlassPalace x = new GlassPalace();
        x.pass(10);
        for (int k = 0; k < 4; k++) {
            x.order(5, 0, 3, 0);
        }
        Due.is("6 on the DAY of its order, TODAY", x.come(0, 10), 1);
        Due.is("6 the DAY ahead of its order", x.come(1, 9), -2);
        Due.is("6 the DAY behind TODAY", x.come(1, 11), -2);
        x.pass(5);
        Due.is("6 the DAY ahead of its order", x.come(1, 9), -2);
        Due.is("6 the DAY behind TODAY", x.come(1, 16), -2);
        Due.is("6 the least int", x.come(1, MIN), -2);
        Due.is("6 the greatest int", x.come(1, MAX), -2);
        Due.is("6 on none of them", x.of(1, 5), -5);
        Due.is("6 on the DAY of its order", x.come(1, 10), 1);
        Due.is("6 TODAY", x.come(2, 15), 1);
        Due.is("6 between", x.come(3, 12), 1);
        int[] due = {10, 10, 15, 12};
        for (int lot = 0; lot < 4; lot++) {
            Due.is("6 it came", x.of(lot, 5), due[lot]);
            Due.is("6 in STOCK", x.of(lot, 6), 3);
            Due.is("6 told once", x.come(lot, due[lot]), -3);
            Due.is("6 told once", x.come(lot, 14), -3);
            Due.is("6 as it was", x.of(lot, 5), due[lot]);
        }
        Due.is("6 LOT -1", x.come(-1, 15), -1);
        Due.is("6 LOT 4, that is none yet", x.come(4, 15), -1);
        Due.is("6 LOT 60", x.come(60, 15), -1);
        Due.is("6 LOT, the greatest int", x.come(MAX, 15), -1);
    }

    private static void comeOnDayNought() {
        GlassPalace x = new GlassPalace();
        x.order(5, 0, 3, 0);
        Due.is("6 DAY -1", x.come(0, -1), -2);
        Due.is("6 DAY -5", x.come(0, -5), -2);
        Due.is("6 DAY 1", x.come(0, 1), -2);
        Due.is("6 DAY 0", x.come(0, 0), 1);
        Due.is("6 it came on 0", x.of(0, 5), 0);
    }

    private static void comeOn399() {
        GlassPalace x = new GlassPalace();
        x.order(5, 0, 3, 0);
        x.order(5, 0, 4, 0);
        goTo(x, 399);
        Due.is("6 DAY 400", x.come(0, 400), -2);
        Due.is("6 DAY 399", x.come(0, 399), 1);
        Due.is("6 DAY 0, told on 399", x.come(1, 0), 1);
        Due.is("38 known on the site by 398", x.known(398, false), 0);
        Due.is("38 known on the site by 399", x.known(399, false), 2);
        Due.is("38 known at the foundries by 398", x.known(398, true), 1);
        Due.is("38 known at the foundries by 399", x.known(399, true), 2);
    }

    // ---- 7

    private static void whatOfALot() {
        GlassPalace x = new GlassPalace();
        for (int what = 0; what <= 8; what++) {
            Due.is("7 no LOTS: LOT 0, what " + what, x.of(0, what), -1);
        }
        x.order(3, 4, 6, 8);
        int[] due = {3, 4, 6, 8, 0, -5, 0, 0, 60};
        for (int what = 0; what <= 8; what++) {
            Due.is("7 LOT 0, what " + what, x.of(0, what), due[what]);
            Due.is("7 LOT 1, that is none yet, what " + what, x.of(1, what), -1);
            Due.is("7 LOT -1, what " + what, x.of(-1, what), -1);
        }
        Due.is("7 what -1", x.of(0, -1), -1);
        Due.is("7 what 9", x.of(0, 9), -1);
        Due.is("7 what, the least int", x.of(0, MIN), -1);
        Due.is("7 what, the greatest int", x.of(0, MAX), -1);
        Due.is("7 LOT 60", x.of(60, 0), -1);
        Due.is("7 LOT, the least int", x.of(MIN, 0), -1);
        Due.is("7 LOT, the greatest int", x.of(MAX, 0), -1);
    }

    private static void toldOnItsDay() {
        GlassPalace x = new GlassPalace();
        x.order(3, 4, 6, 8);
        Due.law(x, "bar f=4&d=1", 0);
        Due.is("7 BARRED TODAY: d is 0", x.of(0, 7), 0);
        x.pass(1);
        Due.is("7 BARRED TODAY, though WAITED FOR: d is 1", x.of(0, 7), 1);
        Due.is("7 in STOCK while WAITED FOR", x.of(0, 6), 0);
        x.come(0, 0);
        Due.is("7 in STOCK, though BARRED", x.of(0, 6), 6);
        x.pass(1);
        Due.is("7 BARRED TODAY: d is 2", x.of(0, 7), 0);
        x.pass(6);
        Due.is("7 BARRED TODAY: d is 1 again", x.of(0, 7), 1);
    }

    private static void paid() {
        GlassPalace x = new GlassPalace();
        x.order(3, 0, 999, 0);
        x.order(3, 0, 1, 0);
        Due.is("7 PAID without a law: 10 for each", x.of(0, 8), 9990);
        Due.is("7 PAID without a law: 10 for one", x.of(1, 8), 10);
        Due.law(x, "pay 0", 0);
        Due.is("7 PAID: 0 for each", x.of(0, 8), 0);
        Due.law(x, "pay 999", 0);
        Due.is("7 PAID: 999 for each of 999, asked behind a later law", x.of(0, 8), 998001);
        Due.law(x, "pay 5", 1);
        x.pass(1);
        x.order(3, 0, 4, 0);
        Due.is("7 PAID by the LAW of its DAY, not of TODAY", x.of(1, 8), 999);
        Due.is("7 PAID by the LAW of its DAY", x.of(2, 8), 20);
        x.come(0, 1);
        x.sell(0, 999);
        Due.is("7 PAID for each, all sold", x.of(0, 8), 998001);
        Due.is("7 in STOCK, all sold", x.of(0, 6), 0);
    }

    // ---- 8

    private static void triedLoads() {
        for (int kind = 0; kind <= 6; kind++) {
            GlassPalace x = new GlassPalace();
            int lot = Due.lot(x, kind, 0, 5, kind == 2 ? 100 : 999);
            Due.is("8 load -1", x.tried(lot, -1), -2);
            Due.is("8 load 2001", x.tried(lot, 2001), -2);
            Due.is("8 load, the least int", x.tried(lot, MIN), -2);
            Due.is("8 load, the greatest int", x.tried(lot, MAX), -2);
            Due.is("8 load 0 of KIND " + kind, x.tried(lot, 0), 1);
            Due.is("8 load 99 of KIND " + kind, x.tried(lot, 99), 1);
            Due.is("8 load 100 of KIND " + kind, x.tried(lot, 100), 1);
            Due.is("8 none is broken", x.count(8), 0);
            Due.is("8 load 101 of KIND " + kind, x.tried(lot, 101), 0);
            Due.is("8 load 2000 of KIND " + kind, x.tried(lot, 2000), 0);
            Due.is("8 two are broken", x.count(8), 2);
            Due.is("8 in STOCK", x.of(lot, 6), 3);
        }
    }

    private static void triedGirders() {
        GlassPalace x = new GlassPalace();
        int weak = Due.lot(x, 2, 0, 2, 0);
        int strong = Due.lot(x, 2, 0, 2, 999);
        Due.is("8 v 0, load 0", x.tried(weak, 0), 1);
        Due.is("8 v 0, load 1", x.tried(weak, 1), 0);
        Due.is("8 v 999, load 998", x.tried(strong, 998), 1);
        Due.is("8 v 999, load 999", x.tried(strong, 999), 1);
        Due.is("8 v 999, load 1000", x.tried(strong, 1000), 0);
    }

    private static void triedToTheLast() {
        GlassPalace x = new GlassPalace();
        int lot = Due.lot(x, 5, 0, 3, 0);
        x.set(lot, 0);
        x.sell(lot, 1);
        Due.is("8 the last one in STOCK", x.tried(lot, 101), 0);
        Due.is("8 none in STOCK", x.tried(lot, 101), -3);
        Due.is("8 none in STOCK, a load that it would bear", x.tried(lot, 0), -3);
        Due.is("8 one is broken", x.count(8), 1);
        Due.is("8 LOT -1", x.tried(-1, 0), -1);
        Due.is("8 LOT 1, that is none yet", x.tried(1, 0), -1);
        Due.is("8 LOT 60", x.tried(60, 0), -1);
        x.order(5, 0, 3, 0);
        Due.is("8 WAITED FOR", x.tried(1, 0), -3);
        x.down(0, 5);
        Due.is("8 one taken down is in STOCK again", x.tried(lot, 0), 1);
    }

    private static void triedBars() {
        GlassPalace x = new GlassPalace();
        int lot = Due.lot(x, 5, 3, 3, 0);
        int held = Due.lot(x, 5, 3, 3, 0);
        Due.is("8 it held: not BARRED", x.tried(held, 100), 1);
        Due.is("7 it held: not BARRED", x.of(lot, 7), 0);
        Due.is("8 one broke", x.tried(held, 101), 0);
        Due.is("7 BARRED: the LOT itself", x.of(held, 7), 1);
        Due.is("7 BARRED: one of its KIND, FOUNDRY, DAY", x.of(lot, 7), 1);
        int same = Due.lot(x, 5, 3, 3, 0);
        Due.is("7 BARRED: one ordered later on that DAY", x.of(same, 7), 1);
        Due.is("7 of another KIND", x.of(Due.lot(x, 0, 3, 3, 0), 7), 0);
        Due.is("7 of another FOUNDRY", x.of(Due.lot(x, 5, 2, 3, 0), 7), 0);
        Due.is("7 of another FOUNDRY", x.of(Due.lot(x, 5, 4, 3, 0), 7), 0);
        x.pass(1);
        Due.is("7 of another DAY", x.of(Due.lot(x, 5, 3, 3, 0), 7), 0);
        Due.is("7 BARRED on all DAYS", x.of(same, 7), 1);
        x.sell(held, 2);
        Due.is("7 BARRED, though all are gone", x.of(held, 7), 1);
    }

    // ---- 9

    private static void soldNumbers() {
        GlassPalace x = new GlassPalace();
        int lot = Due.lot(x, 0, 0, 999, 0);
        Due.is("9 n 0", x.sell(lot, 0), -2);
        Due.is("9 n -1", x.sell(lot, -1), -2);
        Due.is("9 n 1000", x.sell(lot, 1000), -2);
        Due.is("9 n, the least int", x.sell(lot, MIN), -2);
        Due.is("9 n, the greatest int", x.sell(lot, MAX), -2);
        Due.is("9 n 999: all of them", x.sell(lot, 999), 0);
        int other = Due.lot(x, 0, 0, 999, 0);
        Due.is("9 n 1", x.sell(other, 1), 998);
        Due.is("9 n 999: one more than there are", x.sell(other, 999), -3);
        Due.is("9 n 998", x.sell(other, 998), 0);
        Due.is("9 LOT -1", x.sell(-1, 1), -1);
        Due.is("9 LOT 2, that is none yet", x.sell(2, 1), -1);
        Due.is("9 LOT 60", x.sell(60, 1), -1);
    }

    private static void soldToTheLast() {
        GlassPalace x = new GlassPalace();
        int lot = Due.lot(x, 5, 0, 4, 0);
        x.set(lot, 0);
        x.tried(lot, 101);
        Due.is("9 two in STOCK, three", x.sell(lot, 3), -3);
        Due.is("9 two in STOCK, two", x.sell(lot, 2), 0);
        Due.is("9 none in STOCK, one", x.sell(lot, 1), -3);
        x.down(0, 5);
        Due.is("9 one taken down, two", x.sell(lot, 2), -3);
        Due.is("9 one taken down, one", x.sell(lot, 1), 0);
        x.order(5, 0, 4, 0);
        Due.is("9 WAITED FOR", x.sell(1, 1), -3);
        Due.is("9 pieces that stand", x.count(7), 0);
    }
}
