/** Promises 10 to 15: what a bay wants, what may stand in it, what is taken down, trees. */
public final class BaysTest {
    public static void main(String[] args) {
        wants();
        fitInOrder();
        fitLengths();
        fitGround();
        set();
        at();
        down();
        cut();
        Due.end("BaysTest");
    }

    private static void wants() {
        GlassPalace x = new GlassPalace();
        Due.is("10 wants(-1)", x.wants(-1), -1);
        Due.is("10 wants(30)", x.wants(30), -1);
        Due.is("10 wants(29)", x.wants(29), 100);
        x.bay(29, 0, 20);
        x.bay(28, 0, 1);
        Due.is("10 wants(29)", x.wants(29), 60);
        Due.is("10 wants(28)", x.wants(28), 98);
    }

    private static void fitInOrder() {
        GlassPalace x = new GlassPalace();
        int part = Due.lot(x, 0, 1, 5, 0);
        int column = Due.lot(x, 1, 1, 5, 99);
        int girder = Due.lot(x, 2, 1, 5, 10);
        Due.is("11 fit(-1, 0)", x.fit(-1, 0), -1);
        Due.is("11 fit(0, -1)", x.fit(0, -1), -1);
        Due.is("11 fit(0, 30)", x.fit(0, 30), -1);
        Due.is("11 fit(3, 0)", x.fit(3, 0), -1);
        x.order(1, 1, 1, 100);
        Due.law(x, "bar f=1", 1);
        x.bay(0, 1, 7);
        Due.is("11 a plain part", x.fit(part, 0), -3);
        Due.is("11 length ahead of the tree", x.fit(column, 0), -5);
        Due.is("11 girder: the tree does not matter", x.fit(girder, 0), -7);
        x.pass(1);
        Due.is("11 none in stock ahead of barred", x.fit(3, 0), 0);
        Due.is("11 barred ahead of plain part", x.fit(part, 0), -2);
        Due.is("11 barred ahead of length", x.fit(column, 0), -2);
        int tall = Due.lot(x, 1, 0, 5, 100);
        Due.is("11 a tree", x.fit(tall, 0), -6);
        Due.is("11 none hinders", x.fit(tall, 1), 1);
        x.set(tall, 1);
        int longer = Due.lot(x, 1, 0, 5, 101);
        Due.is("11 no room ahead of length", x.fit(longer, 1), -4);
        int broken = Due.lot(x, 1, 2, 2, 100);
        x.tried(broken, 101);
        Due.is("11 barred as one broke, ahead of no room", x.fit(broken, 1), -2);
        int odd = Due.lot(x, 5, 0, 2, 0);
        Due.is("11 odd ones anywhere, trees or not", x.fit(odd, 0), 1);
        x.set(odd, 0);
        Due.is("11 odd: no room", x.fit(odd, 0), -4);
        x.sell(odd, 1);
        Due.is("11 none in stock ahead of no room", x.fit(odd, 0), 0);
    }

    private static void fitLengths() {
        GlassPalace x = new GlassPalace();
        int[] lots = new int[6];
        for (int k = 0; k < 6; k++) {
            lots[k] = Due.lot(x, k % 2 == 0 ? 1 : 6, 0, 2, 91 + k);
        }
        x.bay(7, 0, 3);
        int[] without = {-5, -5, -5, 1, -5, -5};
        int[] packing = {-5, 1, 1, 1, -5, -5};
        for (int k = 0; k < 6; k++) {
            Due.is("11 length " + (91 + k) + " where 94 is wanted", x.fit(lots[k], 7), without[k]);
        }
        Due.law(x, "pack 2", 5);
        for (int k = 0; k < 6; k++) {
            Due.is("11 length " + (91 + k) + ", packing later", x.fit(lots[k], 7), without[k]);
        }
        x.pass(5);
        for (int k = 0; k < 6; k++) {
            Due.is("11 length " + (91 + k) + ", packing 2", x.fit(lots[k], 7), packing[k]);
        }
    }

    private static void fitGround() {
        GlassPalace x = new GlassPalace();
        int columns = Due.lot(x, 1, 0, 30, 100);
        int girders = Due.lot(x, 2, 0, 30, 100);
        int panes = Due.lot(x, 3, 0, 99, 0);
        int gutters = Due.lot(x, 4, 0, 30, 9);
        int wrong = Due.lot(x, 6, 0, 30, 100);
        Due.is("11 girder without columns", x.fit(girders, 3), -7);
        x.set(columns, 4);
        Due.is("11 girder without its own column", x.fit(girders, 3), -7);
        Due.is("11 girder without the column to the right", x.fit(girders, 4), -7);
        x.set(wrong, 3);
        Due.is("11 girder on a wrong column and one to the right", x.fit(girders, 3), 1);
        Due.is("11 no room for two columns, wrong or not", x.fit(columns, 3), -4);
        x.set(columns, 5);
        Due.is("11 girder at the end of a row needs none to the right", x.fit(girders, 5), 1);
        x.set(columns, 6);
        Due.is("11 the next row is not to the right", x.fit(girders, 6), -7);
        Due.is("11 panes without a girder", x.fit(panes, 3), -7);
        Due.is("11 gutter without a girder", x.fit(gutters, 3), -7);
        x.set(girders, 3);
        Due.is("11 panes on a girder", x.fit(panes, 3), 1);
        Due.is("11 gutter on a girder", x.fit(gutters, 3), 1);
        Due.is("11 girder: no room", x.fit(girders, 3), -4);
        x.set(gutters, 3);
        Due.is("11 gutter: no room", x.fit(gutters, 3), -4);
        for (int k = 0; k < 24; k++) {
            Due.is("11 pane " + k, x.fit(panes, 3), 1);
            x.set(panes, 3);
        }
        Due.is("11 the 25th pane: no room", x.fit(panes, 3), -4);
        Due.is("11 at(3, 3)", x.at(3, 3), 24);
        Due.is("14 the 24th pane", x.down(3, 3), panes);
        Due.is("11 room for one", x.fit(panes, 3), 1);
    }

    private static void set() {
        GlassPalace x = new GlassPalace();
        int columns = Due.lot(x, 1, 0, 2, 100);
        Due.is("12 set(-1, 0)", x.set(-1, 0), -1);
        Due.is("12 set(1, 0)", x.set(1, 0), -1);
        Due.is("12 set(0, 30)", x.set(columns, 30), -1);
        Due.is("12 set(0, -1)", x.set(columns, -1), -1);
        x.bay(0, 1, 1);
        Due.is("12 set where a tree is", x.set(columns, 0), -3);
        Due.is("12 of(0, 6) as it was", x.of(columns, 6), 2);
        Due.is("12 set(0, 1)", x.set(columns, 1), 1);
        Due.is("12 of(0, 6)", x.of(columns, 6), 1);
        Due.is("12 count(7)", x.count(7), 1);
        Due.is("12 set(0, 1): no room", x.set(columns, 1), -3);
        Due.is("12 set(0, 2)", x.set(columns, 2), 1);
        Due.is("12 set(0, 3): none in stock", x.set(columns, 3), -3);
        Due.is("12 count(7)", x.count(7), 2);
    }

    private static void at() {
        GlassPalace x = new GlassPalace();
        for (int place = 1; place <= 5; place++) {
            Due.is("13 at(0, " + place + ") of an empty bay", x.at(0, place), place == 3 ? 0 : -5);
        }
        Due.is("13 at(-1, 1)", x.at(-1, 1), -1);
        Due.is("13 at(30, 1)", x.at(30, 1), -1);
        Due.is("13 at(0, 0)", x.at(0, 0), -1);
        Due.is("13 at(0, 6)", x.at(0, 6), -1);
        build(x);
        int[] due = {4, 1, 2, 3, 5};
        for (int place = 1; place <= 5; place++) {
            Due.is("13 at(5, " + place + ")", x.at(5, place), due[place - 1]);
        }
    }

    /** All PLACES of BAY 5: lot 4 (WRONG), 1, two panes of 2 and 6, 3, 5; lot 0 is a column that is left. */
    private static void build(GlassPalace x) {
        int[][] made = {{1, 3, 100}, {2, 1, 50}, {3, 1, 0}, {4, 1, 7}, {6, 1, 100}, {5, 1, 0}, {3, 1, 0}};
        for (int[] lot : made) {
            Due.lot(x, lot[0], 0, lot[1], lot[2]);
        }
        int[] order = {4, 1, 2, 6, 3, 5};
        for (int lot : order) {
            Due.is("set(" + lot + ", 5)", x.set(lot, 5), 1);
        }
    }

    private static void down() {
        GlassPalace x = new GlassPalace();
        Due.is("14 down(-1, 1)", x.down(-1, 1), -1);
        Due.is("14 down(30, 1)", x.down(30, 1), -1);
        Due.is("14 down(0, 0)", x.down(0, 0), -1);
        Due.is("14 down(0, 6)", x.down(0, 6), -1);
        for (int place = 1; place <= 5; place++) {
            Due.is("14 down(0, " + place + "): nothing is there", x.down(0, place), -3);
        }
        build(x);
        Due.is("14 the column is needed", x.down(5, 1), -3);
        Due.is("14 the girder is needed", x.down(5, 2), -3);
        Due.is("14 the pane that came last", x.down(5, 3), 6);
        Due.is("14 in stock again", x.of(6, 6), 1);
        Due.is("14 the other pane", x.down(5, 3), 2);
        Due.is("14 no pane left", x.down(5, 3), -3);
        Due.is("14 the girder is needed by the gutter", x.down(5, 2), -3);
        Due.is("14 the gutter", x.down(5, 4), 3);
        x.set(6, 5);
        Due.is("14 the girder is needed by a pane", x.down(5, 2), -3);
        x.down(5, 3);
        Due.is("14 the girder", x.down(5, 2), 1);
        Due.is("14 the column, under an odd piece", x.down(5, 1), 4);
        Due.is("14 the odd piece", x.down(5, 5), 5);
        Due.is("14 count(7)", x.count(7), 0);
        for (int place = 1; place <= 5; place++) {
            Due.is("14 nothing is at (5, " + place + ") any more", x.at(5, place), place == 3 ? 0 : -5);
        }
        x.set(0, 3);
        x.set(0, 4);
        x.set(0, 6);
        x.set(1, 3);
        Due.is("14 the column to the right of a girder is needed", x.down(4, 1), -3);
        Due.is("14 the column of the next row is not", x.down(6, 1), 0);
        x.down(3, 2);
        Due.is("14 it is not any more", x.down(4, 1), 0);
        x.set(0, 5);
        x.set(0, 6);
        x.set(1, 5);
        Due.is("14 a girder at the end of a row needs none in the next", x.down(6, 1), 0);
    }

    private static void cut() {
        GlassPalace x = new GlassPalace();
        Due.is("15 cut(-1)", x.cut(-1), -1);
        Due.is("15 cut(30)", x.cut(30), -1);
        Due.is("15 cut(8): none there", x.cut(8), -3);
        x.bay(8, 1, 30);
        x.bay(9, 1, 31);
        Due.is("15 cut(8): without law it must stay", x.cut(8), -3);
        Due.law(x, "cut t<31", 2);
        Due.is("15 cut(8): the law is not in force yet", x.cut(8), -3);
        x.pass(2);
        Due.is("15 cut(7): none there, though it might", x.cut(7), -3);
        Due.is("15 cut(9): it must stay", x.cut(9), -3);
        Due.is("15 cut(8)", x.cut(8), 30);
        Due.is("15 cut(8): it is gone", x.cut(8), -3);
        Due.is("15 bay(8, 1, 0)", x.bay(8, 1, 0), 0);
        Due.is("15 bay(9, 1, 0)", x.bay(9, 1, 0), 31);
    }
}
