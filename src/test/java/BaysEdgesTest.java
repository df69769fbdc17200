/** Promises 10 to 15, edge by edge: lengths, what hinders and in which order, places, taking down, trees. */
public final class BaysEdgesTest {
    private static final int MIN = Integer.MIN_VALUE, MAX = Integer.MAX_VALUE;

    public static void main(String[] args) {
        wantsOfEveryLevel();
        noSuchBayOrLot();
        lengthsWithoutPacking();
        packings();
        packingOfToday();
        trees();
        otherPiecesByTrees();
        girdersOfEveryBay();
        girdersOnWrongColumns();
        panesAndGutters();
        oddOnesAnywhere();
        roomAtEachPlace();
        twoHindrances();
        barredIsNotSet();
        stockOfFit();
        placesOfABay();
        panesThatCameLast();
        columnsThatAreNeeded();
        girdersThatAreNeeded();
        stockWhenTakenDown();
        cutFeet();
        cutToday();
        Due.end("BaysEdgesTest");
    }

    // ---- 10

    private static void wantsOfEveryLevel() {
        GlassPalace x = new GlassPalace();
        for (int level = 0; level <= 20; level++) {
            x.bay(level, 0, level);
            Due.is("10 100 less twice " + level, x.wants(level), 100 - 2 * level);
        }
        Due.is("10 BAY -1", x.wants(-1), -1);
        Due.is("10 BAY 29", x.wants(29), 100);
        Due.is("10 BAY 30", x.wants(30), -1);
        Due.is("10 the least int", x.wants(MIN), -1);
        Due.is("10 the greatest int", x.wants(MAX), -1);
        x.bay(29, 1, 60);
        Due.is("10 a TREE does not matter", x.wants(29), 100);
    }

    // ---- 11, 12

    private static void noSuchBayOrLot() {
        GlassPalace x = new GlassPalace();
        int[] none = {-1, 1, 59, 60, MIN, MAX};
        int lot = Due.lot(x, 5, 0, 3, 0);
        for (int l : none) {
            Due.is("11 LOT " + l, x.fit(l, 0), -1);
            Due.is("12 LOT " + l, x.set(l, 0), -1);
        }
        int[] bays = {-1, 30, MIN, MAX};
        for (int b : bays) {
            Due.is("11 BAY " + b, x.fit(lot, b), -1);
            Due.is("12 BAY " + b, x.set(lot, b), -1);
            Due.is("11 neither", x.fit(-1, b), -1);
        }
        Due.is("11 BAY 0", x.fit(lot, 0), 1);
        Due.is("11 BAY 29", x.fit(lot, 29), 1);
        Due.is("12 BAY 0", x.set(lot, 0), 1);
        Due.is("12 BAY 29", x.set(lot, 29), 1);
    }

    private static void lengthsWithoutPacking() {
        int[][] due = {{0, 99, -5}, {0, 100, 1}, {0, 101, -5}, {20, 59, -5}, {20, 60, 1}, {20, 61, -5},
            {1, 97, -5}, {1, 98, 1}, {1, 99, -5}, {0, 0, -5}, {0, 999, -5}};
        for (int[] d : due) {
            for (int kind = 1; kind <= 6; kind += 5) {
                GlassPalace x = new GlassPalace();
                x.bay(3, 0, d[0]);
                int lot = Due.lot(x, kind, 0, 1, d[1]);
                Due.is("11 LEVEL " + d[0] + ", KIND " + kind + ", length " + d[1], x.fit(lot, 3), d[2]);
                Due.is("12 LEVEL " + d[0] + ", KIND " + kind + ", length " + d[1], x.set(lot, 3), d[2] == 1 ? 1 : -3);
            }
        }
    }

    private static void packings() {
        int[][] due = {{0, 100, 1}, {0, 99, -5}, {1, 99, 1}, {1, 98, -5}, {1, 101, -5}, {10, 90, 1}, {10, 89, -5},
            {10, 91, 1}, {99, 1, 1}, {99, 0, -5}, {100, 0, 1}, {999, 0, 1}, {999, 101, -5}, {999, 100, 1}};
        for (int[] d : due) {
            for (int kind = 1; kind <= 6; kind += 5) {
                GlassPalace x = new GlassPalace();
                Due.law(x, "pack " + d[0], 0);
                int lot = Due.lot(x, kind, 0, 1, d[1]);
                Due.is("11 PACKING " + d[0] + ", KIND " + kind + ", length " + d[1], x.fit(lot, 29), d[2]);
            }
        }
    }

    private static void packingOfToday() {
        GlassPalace x = new GlassPalace();
        int lot = Due.lot(x, 1, 0, 5, 99);
        Due.law(x, "pack 1", 2);
        Due.law(x, "pack 0", 3);
        x.pass(1);
        Due.is("11 the DAY ahead of the LAW's", x.fit(lot, 0), -5);
        x.pass(1);
        Due.is("11 on the LAW's DAY", x.fit(lot, 0), 1);
        Due.is("12 on the LAW's DAY", x.set(lot, 0), 1);
        x.pass(1);
        Due.is("11 on the next LAW's DAY", x.fit(lot, 1), -5);
        Due.is("13 what was set stays", x.at(0, 1), lot);
    }

    private static void trees() {
        int[] feet = {1, 2, 59, 60};
        for (int n : feet) {
            GlassPalace x = new GlassPalace();
            x.bay(8, 1, n);
            int columns = Due.lot(x, 1, 0, 5, 100);
            int wrong = Due.lot(x, 6, 0, 5, 100);
            Due.is("11 a TREE of " + n + " feet, a column", x.fit(columns, 8), -6);
            Due.is("11 a TREE of " + n + " feet, a wrong column", x.fit(wrong, 8), -6);
            Due.is("12 a TREE of " + n + " feet", x.set(columns, 8), -3);
            Due.is("11 beside it", x.fit(columns, 7), 1);
            Due.is("11 beside it", x.fit(columns, 9), 1);
            Due.law(x, "cut t>0", 0);
            x.cut(8);
            Due.is("11 it was cut", x.fit(columns, 8), 1);
        }
        GlassPalace x = new GlassPalace();
        x.bay(8, 1, 60);
        x.bay(8, 1, 0);
        Due.is("11 a TREE of 0 feet is none", x.fit(Due.lot(x, 1, 0, 5, 100), 8), 1);
    }

    private static void otherPiecesByTrees() {
        GlassPalace x = new GlassPalace();
        x.bay(8, 1, 60);
        Due.is("11 a plain part by a TREE", x.fit(Due.lot(x, 0, 0, 5, 100), 8), -3);
        Due.is("11 a girder by a TREE", x.fit(Due.lot(x, 2, 0, 5, 100), 8), -7);
        Due.is("11 a pane by a TREE", x.fit(Due.lot(x, 3, 0, 5, 100), 8), -7);
        Due.is("11 a gutter by a TREE", x.fit(Due.lot(x, 4, 0, 5, 100), 8), -7);
        Due.is("11 an odd one by a TREE", x.fit(Due.lot(x, 5, 0, 5, 100), 8), 1);
        x.set(Due.lot(x, 1, 0, 1, 100), 7);
        Due.is("11 a girder to whose RIGHT a TREE is, but no column", x.fit(1, 7), -7);
    }

    private static void girdersOfEveryBay() {
        for (int b = 0; b < 30; b++) {
            GlassPalace x = new GlassPalace();
            int columns = Due.lot(x, 1, 0, 5, 100);
            int girders = Due.lot(x, 2, 0, 5, 100);
            boolean end = b == 5 || b == 11 || b == 17 || b == 23 || b == 29;
            Due.is("11 no column in " + b, x.fit(girders, b), -7);
            x.set(columns, b);
            Due.is("11 a column in " + b + " alone", x.fit(girders, b), end ? 1 : -7);
            if (!end) {
                x.set(columns, b + 1);
                Due.is("11 one in " + b + " and to the RIGHT", x.fit(girders, b), 1);
                x.down(b, 1);
                Due.is("11 one to the RIGHT of " + b + " alone", x.fit(girders, b), -7);
            }
        }
    }

    private static void girdersOnWrongColumns() {
        for (int bits = 0; bits < 4; bits++) {
            GlassPalace x = new GlassPalace();
            int[] columns = {Due.lot(x, 1, 0, 5, 100), Due.lot(x, 6, 0, 5, 100)};
            int girders = Due.lot(x, 2, 0, 5, 100);
            int left = columns[bits & 1];
            int right = columns[bits >> 1];
            x.set(left, 27);
            x.set(right, 28);
            Due.is("11 a girder on columns, WRONG or not, " + bits, x.fit(girders, 27), 1);
            Due.is("12 a girder on columns, WRONG or not, " + bits, x.set(girders, 27), 1);
            Due.is("14 its column is needed, WRONG or not", x.down(27, 1), -3);
            Due.is("14 that to the RIGHT is needed, WRONG or not", x.down(28, 1), -3);
            Due.is("13 the LOT of its column", x.at(27, 1), left);
            Due.is("14 the girder", x.down(27, 2), girders);
            Due.is("14 that to the RIGHT", x.down(28, 1), right);
        }
    }

    private static void panesAndGutters() {
        GlassPalace x = new GlassPalace();
        int columns = Due.lot(x, 1, 0, 9, 100);
        int girders = Due.lot(x, 2, 0, 9, 100);
        int panes = Due.lot(x, 3, 0, 9, 0);
        int gutters = Due.lot(x, 4, 0, 9, 0);
        x.set(columns, 4);
        x.set(columns, 5);
        Due.is("11 a pane on columns alone", x.fit(panes, 4), -7);
        Due.is("11 a gutter on columns alone", x.fit(gutters, 4), -7);
        x.set(girders, 4);
        Due.is("11 a pane on a girder", x.fit(panes, 4), 1);
        Due.is("11 a gutter on a girder", x.fit(gutters, 4), 1);
        Due.is("11 a pane beside a girder", x.fit(panes, 5), -7);
        Due.is("11 a gutter beside a girder", x.fit(gutters, 5), -7);
        Due.is("12 a gutter without panes", x.set(gutters, 4), 1);
        Due.is("12 a pane beside a gutter", x.set(panes, 4), 1);
    }

    private static void oddOnesAnywhere() {
        GlassPalace x = new GlassPalace();
        int odd = Due.lot(x, 5, 0, 30, 999);
        for (int b = 0; b < 30; b++) {
            x.bay(b, 0, b % 21);
            x.bay(b, 1, 2 * b);
            Due.is("11 an odd one in " + b, x.fit(odd, b), 1);
            Due.is("12 an odd one in " + b, x.set(odd, b), 1);
        }
        Due.is("11 the 31st of 30", x.fit(odd, 0), 0);
        Due.is("7 none in STOCK", x.of(odd, 6), 0);
    }

    private static void roomAtEachPlace() {
        GlassPalace x = new GlassPalace();
        int columns = Due.lot(x, 1, 0, 9, 100);
        int wrong = Due.lot(x, 6, 0, 9, 100);
        int girders = Due.lot(x, 2, 0, 9, 100);
        int panes = Due.lot(x, 3, 0, 99, 0);
        int others = Due.lot(x, 3, 1, 99, 0);
        int gutters = Due.lot(x, 4, 0, 9, 0);
        int odd = Due.lot(x, 5, 0, 9, 0);
        int[] lots = {columns, girders, gutters, odd};
        for (int lot : lots) {
            Due.is("12 the first", x.set(lot, 29), 1);
            Due.is("11 no room for a second", x.fit(lot, 29), -4);
            Due.is("12 no room for a second", x.set(lot, 29), -3);
        }
        Due.is("11 no room for a wrong one beside a column", x.fit(wrong, 29), -4);
        for (int n = 0; n < 24; n++) {
            Due.is("11 room for pane " + n, x.fit(others, 29), 1);
            Due.is("12 room for pane " + n, x.set(n % 2 == 0 ? panes : others, 29), 1);
        }
        Due.is("11 no room for a 25th", x.fit(panes, 29), -4);
        Due.is("11 no room for a 25th of another LOT", x.fit(others, 29), -4);
        Due.is("12 no room for a 25th", x.set(others, 29), -3);
        Due.is("13 24 PANES", x.at(29, 3), 24);
        x.set(wrong, 28);
        Due.is("11 no room for a column where a wrong one stands", x.fit(columns, 28), -4);
        Due.is("11 nor for another wrong one", x.fit(wrong, 28), -4);
    }

    /** Of two that hinder the first is answered. */
    private static void twoHindrances() {
        GlassPalace x = new GlassPalace();
        Due.law(x, "bar f=7", 0);
        x.bay(1, 1, 9);
        int columns = Due.lot(x, 1, 0, 9, 100);
        int longer = Due.lot(x, 1, 0, 9, 101);
        x.set(columns, 0);
        x.order(0, 7, 1, 0);
        x.order(1, 0, 1, 100);
        x.order(1, 0, 1, 101);
        x.order(2, 0, 1, 100);
        x.order(0, 0, 1, 100);
        Due.is("11 none in STOCK ahead of BARRED, a plain part", x.fit(2, 0), 0);
        Due.is("11 none in STOCK ahead of no room", x.fit(3, 0), 0);
        Due.is("11 none in STOCK ahead of its length", x.fit(4, 2), 0);
        Due.is("11 none in STOCK ahead of a TREE", x.fit(3, 1), 0);
        Due.is("11 none in STOCK ahead of no columns", x.fit(5, 9), 0);
        Due.is("11 none in STOCK ahead of a plain part", x.fit(6, 9), 0);
        int part = Due.lot(x, 0, 7, 1, 0);
        int barred = Due.lot(x, 1, 7, 1, 100);
        int barredLonger = Due.lot(x, 1, 7, 1, 101);
        int girder = Due.lot(x, 2, 7, 1, 100);
        Due.is("11 BARRED ahead of a plain part", x.fit(part, 9), -2);
        Due.is("11 BARRED ahead of no room", x.fit(barred, 0), -2);
        Due.is("11 BARRED ahead of its length", x.fit(barredLonger, 9), -2);
        Due.is("11 BARRED ahead of a TREE", x.fit(barred, 1), -2);
        Due.is("11 BARRED ahead of no columns", x.fit(girder, 9), -2);
        Due.is("11 a plain part where a TREE is", x.fit(Due.lot(x, 0, 0, 1, 5), 1), -3);
        Due.is("11 no room ahead of its length", x.fit(longer, 0), -4);
        Due.is("11 its length ahead of a TREE", x.fit(longer, 1), -5);
        for (int n = 0; n < 7; n++) {
            Due.is("12 STATE for all of them", x.set(n + 1, 1), -3);
        }
    }

    private static void barredIsNotSet() {
        GlassPalace x = new GlassPalace();
        Due.law(x, "bar d=1", 0);
        int odd = Due.lot(x, 5, 3, 9, 0);
        Due.is("12 the DAY ahead", x.set(odd, 0), 1);
        x.pass(1);
        Due.is("11 BARRED on its DAY", x.fit(odd, 1), -2);
        Due.is("12 BARRED on its DAY", x.set(odd, 1), -3);
        Due.is("14 it may be taken down, though", x.down(0, 5), odd);
        Due.is("12 but not set again", x.set(odd, 0), -3);
        x.pass(1);
        Due.is("12 the DAY behind", x.set(odd, 1), 1);
    }

    private static void stockOfFit() {
        GlassPalace x = new GlassPalace();
        x.order(5, 0, 2, 0);
        Due.is("11 WAITED FOR", x.fit(0, 0), 0);
        x.come(0, 0);
        Due.is("11 it came TODAY", x.fit(0, 0), 1);
        x.set(0, 0);
        Due.is("11 one left", x.fit(0, 1), 1);
        x.sell(0, 1);
        Due.is("11 sold", x.fit(0, 1), 0);
        x.down(0, 5);
        Due.is("11 taken down", x.fit(0, 1), 1);
        x.tried(0, 101);
        Due.is("11 broken", x.fit(0, 1), 0);
    }

    // ---- 13, 14

    private static void placesOfABay() {
        GlassPalace x = Palace.built();
        int[] places = {-1, 0, 6, MIN, MAX};
        int[] bays = {-1, 30, MIN, MAX};
        for (int place : places) {
            Due.is("13 PLACE " + place, x.at(0, place), -1);
            Due.is("14 PLACE " + place, x.down(0, place), -1);
        }
        for (int b : bays) {
            for (int place = 1; place <= 5; place++) {
                Due.is("13 BAY " + b, x.at(b, place), -1);
                Due.is("14 BAY " + b, x.down(b, place), -1);
            }
        }
        Due.is("13 PLACE 1", x.at(0, 1), Palace.SHORT);
        Due.is("13 PLACE 1: a wrong one", x.at(6, 1), Palace.WRONGS);
        Due.is("13 PLACE 2", x.at(0, 2), Palace.GIRDERS);
        Due.is("13 PLACE 3: how many", x.at(0, 3), 2);
        Due.is("13 PLACE 4", x.at(0, 4), Palace.GUTTERS);
        Due.is("13 PLACE 5", x.at(8, 5), Palace.ODDS);
        Due.is("13 PLACE 5: nothing", x.at(0, 5), -5);
        Due.is("13 PLACE 3 without PANES", x.at(6, 3), 0);
        Due.is("13 LOT 0 is a LOT", x.at(7, 1), 0);
        Due.is("13 BAY 29: nothing", x.at(29, 1), -5);
    }

    private static void panesThatCameLast() {
        GlassPalace x = new GlassPalace();
        x.set(Due.lot(x, 1, 0, 1, 100), 29);
        x.set(Due.lot(x, 2, 0, 1, 100), 29);
        int[] lots = {Due.lot(x, 3, 0, 24, 0), Due.lot(x, 3, 0, 24, 0), Due.lot(x, 3, 0, 24, 0)};
        for (int n = 0; n < 24; n++) {
            x.set(lots[n * n % 3], 29);
        }
        for (int n = 23; n >= 0; n--) {
            Due.is("13 so many PANES", x.at(29, 3), n + 1);
            Due.is("14 the PANE that came last", x.down(29, 3), lots[n * n % 3]);
        }
        Due.is("14 none is left", x.down(29, 3), -3);
        Due.is("13 none is left", x.at(29, 3), 0);
        x.set(lots[2], 29);
        Due.is("13 one more", x.at(29, 3), 1);
        Due.is("14 one more", x.down(29, 3), lots[2]);
    }

    private static void columnsThatAreNeeded() {
        for (int b = 0; b < 30; b++) {
            GlassPalace x = new GlassPalace();
            int columns = Due.lot(x, 1, 0, 30, 100);
            int girders = Due.lot(x, 2, 0, 30, 100);
            boolean end = b % 6 == 5;
            for (int k = 0; k < 30; k++) {
                x.set(columns, k);
            }
            Due.is("a girder in " + b, x.set(girders, b), 1);
            for (int k = 0; k < 30; k++) {
                boolean needed = k == b || k == b + 1 && !end;
                Due.is("14 a girder in " + b + ", the column in " + k, x.down(k, 1), needed ? -3 : columns);
            }
            Due.is("14 the girder", x.down(b, 2), girders);
            Due.is("14 its column", x.down(b, 1), columns);
            Due.is("14 the one to the RIGHT", x.down(b == 29 ? 29 : b + 1, 1), end ? -3 : columns);
        }
    }

    private static void girdersThatAreNeeded() {
        GlassPalace x = new GlassPalace();
        int columns = Due.lot(x, 1, 0, 30, 100);
        int girders = Due.lot(x, 2, 0, 30, 100);
        int panes = Due.lot(x, 3, 0, 30, 100);
        int gutters = Due.lot(x, 4, 0, 30, 100);
        int odd = Due.lot(x, 5, 0, 30, 100);
        for (int b = 0; b < 6; b++) {
            x.set(columns, b);
        }
        for (int b = 0; b < 6; b++) {
            x.set(girders, b);
        }
        x.set(panes, 0);
        x.set(gutters, 1);
        x.set(panes, 2);
        x.set(gutters, 2);
        x.set(odd, 3);
        int[] due = {-3, -3, -3, girders, girders, girders};
        for (int b = 0; b < 6; b++) {
            Due.is("14 the girder in " + b, x.down(b, 2), due[b]);
        }
        Due.is("14 the gutter above a pane", x.down(2, 4), gutters);
        Due.is("14 still a pane", x.down(2, 2), -3);
        Due.is("14 the pane", x.down(2, 3), panes);
        Due.is("14 nothing is there any more", x.down(2, 2), girders);
        Due.is("14 the pane below no gutter", x.down(0, 3), panes);
        Due.is("14 its girder", x.down(0, 2), girders);
        Due.is("14 the gutter without panes", x.down(1, 4), gutters);
        Due.is("14 its girder", x.down(1, 2), girders);
        Due.is("14 a column by an odd one", x.down(3, 1), columns);
    }

    private static void stockWhenTakenDown() {
        GlassPalace x = new GlassPalace();
        int odd = Due.lot(x, 5, 0, 1, 0);
        Due.is("12 the one", x.set(odd, 0), 1);
        Due.is("7 none in STOCK", x.of(odd, 6), 0);
        Due.is("14 the LOT", x.down(0, 5), odd);
        Due.is("7 in STOCK again", x.of(odd, 6), 1);
        Due.is("43 none stands", x.count(7), 0);
        Due.is("14 nothing is there", x.down(0, 5), -3);
        Due.is("12 set elsewhere", x.set(odd, 29), 1);
        Due.is("13 there", x.at(29, 5), odd);
        Due.is("43 one stands", x.count(7), 1);
    }

    // ---- 15

    private static void cutFeet() {
        int[] feet = {1, 2, 59, 60};
        for (int n : feet) {
            GlassPalace x = new GlassPalace();
            x.bay(29, 1, n);
            x.bay(0, 1, n);
            Due.is("15 it must stay without a LAW", x.cut(29), -3);
            Due.law(x, "cut t>0", 0);
            Due.is("15 BAY -1", x.cut(-1), -1);
            Due.is("15 BAY 30", x.cut(30), -1);
            Due.is("15 the least int", x.cut(MIN), -1);
            Due.is("15 the greatest int", x.cut(MAX), -1);
            Due.is("15 there is none", x.cut(1), -3);
            Due.is("15 its feet", x.cut(29), n);
            Due.is("15 there is none any more", x.cut(29), -3);
            Due.is("3 of 0 feet then", x.bay(29, 1, 0), 0);
            Due.is("15 BAY 0", x.cut(0), n);
        }
        GlassPalace x = new GlassPalace();
        Due.law(x, "cut t=0", 0);
        Due.is("15 there is none, though one of 0 feet might be cut", x.cut(0), -3);
        Due.is("18 it might", x.force(4, 0, 0), 1);
    }

    private static void cutToday() {
        GlassPalace x = new GlassPalace();
        for (int b = 0; b < 3; b++) {
            x.bay(b, 1, 10);
        }
        Due.law(x, "cut d=1", 0);
        Due.law(x, "cut t=9", 2);
        Due.is("15 it must stay TODAY", x.cut(0), -3);
        x.pass(1);
        Due.is("15 not TODAY", x.cut(0), 10);
        x.pass(1);
        Due.is("15 it must stay by the later LAW", x.cut(1), -3);
        Due.is("15 an odd one stands there", x.set(Due.lot(x, 5, 0, 1, 0), 2), 1);
        Due.law(x, "cut t=10", 2);
        Due.is("15 what stands there does not matter", x.cut(2), 10);
        Due.is("15 behind it", x.cut(2), -3);
    }
}
