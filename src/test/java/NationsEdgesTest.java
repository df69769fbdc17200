/** Promises 35 to 38, edge by edge: runs that are let, the order of taking down, what was known by which day. */
public final class NationsEdgesTest {
    private static final int MIN = Integer.MIN_VALUE, MAX = Integer.MAX_VALUE;

    public static void main(String[] args) {
        letNumbers();
        runsInARow();
        lastPlaceOfAll();
        fewestGiveWay();
        leastFirstBay();
        ownRunIsLostFirst();
        givingWayIsCounted();
        runsThatTouch();
        nationNumbers();
        unbuildNumbers();
        unbuildOfOne();
        unbuildInABay();
        unbuildOverARow();
        unbuildAsItMayBeDone();
        knownNumbers();
        knownByDays();
        Due.end("NationsEdgesTest");
    }

    // ---- 35

    private static void letNumbers() {
        GlassPalace x = new GlassPalace();
        int[] nations = {-1, 8, MIN, MAX};
        int[] sizes = {-1, 0, 7, MIN, MAX};
        for (int nation : nations) {
            Due.is("35 NATION " + nation, x.let(nation, 1), -1);
            Due.is("35 NATION " + nation + ", n 0", x.let(nation, 0), -1);
            Due.is("35 NATION " + nation + ", n 7", x.let(nation, 7), -1);
        }
        for (int n : sizes) {
            Due.is("35 n " + n, x.let(0, n), -2);
            Due.is("35 n " + n, x.let(7, n), -2);
        }
        for (int nation = 0; nation < 8; nation++) {
            Due.is("36 none has a RUN", x.nation(nation, 1), 0);
        }
        Due.is("35 n 1", x.let(0, 1), 0);
        Due.is("35 n 6", x.let(7, 6), 6);
    }

    private static void runsInARow() {
        int[][] due = {{1, 1, 0, 1}, {2, 2, 0, 2}, {3, 3, 0, 3}, {4, 2, 0, 4}, {4, 3, 0, 6}, {5, 1, 0, 5}, {5, 2, 0, 6},
            {6, 1, 0, 6}, {6, 6, 0, 6}, {1, 6, 0, 6}, {3, 4, 0, 6}};
        for (int[] d : due) {
            GlassPalace x = new GlassPalace();
            Due.is("35 a RUN of " + d[0], x.let(0, d[0]), d[2]);
            Due.is("35 a RUN of " + d[1] + " behind one of " + d[0] + ", in one row", x.let(1, d[1]), d[3]);
        }
    }

    private static void lastPlaceOfAll() {
        GlassPalace x = new GlassPalace();
        int[] sizes = {6, 6, 6, 6, 5, 1};
        int[] firsts = {0, 6, 12, 18, 24, 29};
        for (int nation = 0; nation < 6; nation++) {
            Due.is("35 the last place left", x.let(nation, sizes[nation]), firsts[nation]);
        }
        Due.is("35 BAY 29 is the RUN's", x.nation(5, 0), 29);
        Due.is("35 every BAY is let: one gives way", x.let(6, 1), 0);
        Due.is("36 NATION 0 gave way", x.nation(0, 0), -5);
        Due.is("35 the rest of its RUN is free", x.let(7, 5), 1);
        Due.is("35 nobody gave way", x.nation(6, 0), 0);
    }

    private static void fewestGiveWay() {
        GlassPalace x = new GlassPalace();
        int[] sizes = {2, 2, 2, 6, 6, 6, 6};
        int[] firsts = {0, 2, 4, 6, 12, 18, 24};
        for (int nation = 0; nation < 7; nation++) {
            Due.is("35 let", x.let(nation, sizes[nation]), firsts[nation]);
        }
        Due.is("35 of 3: one gives way, not two", x.let(7, 3), 6);
        Due.is("36 it gave way", x.nation(3, 0), -5);
        Due.is("36 the others did not", x.nation(0, 0), 0);
        Due.is("35 of 3 again: none has to", x.let(3, 3), 9);
        Due.is("35 of 6: its own is lost, one of 9 .. 11 gives way, not three of 0 .. 5", x.let(7, 6), 6);
        Due.is("36 that of 9", x.nation(3, 2), 2);
        Due.is("36 it has none now", x.nation(3, 1), 0);
        Due.is("35 of 6: one gives way, the least of four", x.let(3, 6), 6);
        Due.is("36 that of 6", x.nation(7, 2), 1);
        for (int nation = 0; nation < 3; nation++) {
            Due.is("36 those of 0 .. 5 did not", x.nation(nation, 2), 0);
        }
    }

    private static void leastFirstBay() {
        GlassPalace x = new GlassPalace();
        x.let(0, 6);
        x.let(1, 6);
        x.let(2, 6);
        x.let(3, 6);
        x.let(4, 6);
        Due.is("35 all alike: the least first BAY", x.let(5, 3), 0);
        Due.is("36 that of 0", x.nation(0, 2), 1);
        Due.is("35 two places without any: the least", x.let(6, 1), 3);
        Due.is("35 one place without any", x.let(7, 2), 4);
        Due.is("35 all alike again", x.let(0, 1), 0);
        Due.is("36 that of 0 now", x.nation(5, 2), 1);
    }

    private static void ownRunIsLostFirst() {
        GlassPalace x = new GlassPalace();
        int[] sizes = {6, 6, 6, 6, 6};
        for (int nation = 0; nation < 5; nation++) {
            x.let(nation, sizes[nation]);
        }
        Due.is("35 LET anew, its own place is free", x.let(3, 6), 18);
        Due.is("36 it did not give way to itself", x.nation(3, 2), 0);
        Due.is("35 LET anew, smaller", x.let(3, 1), 18);
        Due.is("35 LET anew, greater", x.let(3, 5), 18);
        Due.is("36 BAYS", x.nation(3, 1), 5);
        Due.is("35 the BAY that is left is free", x.let(5, 1), 23);
        Due.is("35 LET anew where one gives way, though its own RUN was free", x.let(5, 6), 0);
        Due.is("36 NATION 0 gave way", x.nation(0, 2), 1);
        Due.is("36 NATION 3 did not", x.nation(3, 2), 0);
        Due.is("35 BAD: its RUN stays", x.let(5, 7), -2);
        Due.is("36 its RUN stays", x.nation(5, 1), 6);
        for (int nation = 1; nation < 5; nation++) {
            Due.is("36 none of the others gave way", x.nation(nation, 2), 0);
        }
    }

    private static void givingWayIsCounted() {
        GlassPalace x = new GlassPalace();
        for (int nation = 0; nation < 5; nation++) {
            x.let(nation, 6);
        }
        for (int times = 1; times <= 30; times++) {
            Due.is("35 one of two takes the first row", x.let(times % 2 == 1 ? 5 : 0, 6), 0);
            Due.is("36 so often the one gave way", x.nation(0, 2), (times + 1) / 2);
            Due.is("36 so often the other", x.nation(5, 2), times / 2);
        }
        Due.is("36 the last one is there", x.nation(0, 0), 0);
        Due.is("36 the other is not", x.nation(5, 0), -5);
        Due.is("36 the other has no BAYS", x.nation(5, 1), 0);
    }

    private static void runsThatTouch() {
        GlassPalace x = new GlassPalace();
        x.let(0, 2);
        x.let(1, 2);
        x.let(2, 2);
        for (int nation = 3; nation < 7; nation++) {
            x.let(nation, 6);
        }
        x.let(1, 1);
        Due.is("36 it stands at 2", x.nation(1, 0), 2);
        Due.is("35 BAY 3 between two that touch it", x.let(7, 1), 3);
        for (int nation = 0; nation < 8; nation++) {
            Due.is("36 to touch is not to give way", x.nation(nation, 2), 0);
        }
        Due.is("35 of 2: BAYS 0, 1 are one RUN", x.let(7, 2), 0);
        Due.is("36 BAY 2 is none of it", x.nation(1, 2), 0);
        Due.is("36 it gave way", x.nation(0, 2), 1);
    }

    // ---- 36

    private static void nationNumbers() {
        GlassPalace x = new GlassPalace();
        x.let(0, 6);
        x.let(7, 5);
        int[] nations = {-1, 8, MIN, MAX};
        int[] whats = {-1, 3, MIN, MAX};
        for (int nation : nations) {
            for (int what = 0; what < 3; what++) {
                Due.is("36 NATION " + nation, x.nation(nation, what), -1);
            }
        }
        for (int what : whats) {
            Due.is("36 what " + what, x.nation(0, what), -1);
            Due.is("36 what " + what, x.nation(7, what), -1);
            Due.is("36 what " + what + " of one without a RUN", x.nation(3, what), -1);
        }
        int[] due0 = {0, 6, 0};
        int[] due7 = {6, 5, 0};
        int[] due3 = {-5, 0, 0};
        for (int what = 0; what < 3; what++) {
            Due.is("36 NATION 0, what " + what, x.nation(0, what), due0[what]);
            Due.is("36 NATION 7, what " + what, x.nation(7, what), due7[what]);
            Due.is("36 without a RUN, what " + what, x.nation(3, what), due3[what]);
        }
    }

    // ---- 37

    private static void unbuildNumbers() {
        GlassPalace x = new GlassPalace();
        Due.is("37 nothing stands: no steps", x.unbuild(-1), 0);
        Due.is("37 nothing stands: no first step", x.unbuild(0), -1);
        int odd = Due.lot(x, 5, 0, 30, 0);
        for (int b = 29; b >= 0; b--) {
            x.set(odd, b);
        }
        Due.is("37 30 steps", x.unbuild(-1), 30);
        for (int i = 0; i < 30; i++) {
            Due.is("37 step " + i, x.unbuild(i), 10 * i + 5);
        }
        int[] none = {-2, 30, 31, MIN, MAX};
        for (int i : none) {
            Due.is("37 step " + i, x.unbuild(i), -1);
        }
    }

    private static void unbuildOfOne() {
        int[] bays = {0, 5, 6, 29};
        for (int b : bays) {
            GlassPalace x = new GlassPalace();
            x.set(Due.lot(x, 6, 0, 1, 100), b);
            Due.is("37 one step", x.unbuild(-1), 1);
            Due.is("37 a wrong COLUMN in " + b, x.unbuild(0), 10 * b + 1);
            Due.is("37 no second step", x.unbuild(1), -1);
            Due.is("37 it stands still", x.at(b, 1), 0);
        }
    }

    private static void unbuildInABay() {
        GlassPalace x = new GlassPalace();
        int[] kinds = {1, 2, 3, 4, 5};
        for (int kind : kinds) {
            Due.is("set", x.set(Due.lot(x, kind, 0, 30, 100), 29), 1);
        }
        for (int n = 1; n < 24; n++) {
            Due.is("set a pane", x.set(2, 29), 1);
        }
        Due.is("37 24 PANES are one step", x.unbuild(-1), 5);
        for (int i = 0; i < 5; i++) {
            Due.is("37 the greatest PLACE first, step " + i, x.unbuild(i), 295 - i);
        }
        Due.is("37 none behind the last", x.unbuild(5), -1);
        x.down(29, 4);
        Due.is("37 without the gutter", x.unbuild(-1), 4);
        Due.is("37 then the PANES", x.unbuild(1), 293);
        for (int n = 0; n < 24; n++) {
            x.down(29, 3);
        }
        Due.is("37 without PANES", x.unbuild(-1), 3);
        Due.is("37 then the GIRDER", x.unbuild(1), 292);
    }

    private static void unbuildOverARow() {
        GlassPalace x = new GlassPalace();
        int columns = Due.lot(x, 1, 0, 30, 100);
        int girders = Due.lot(x, 2, 0, 30, 100);
        int[] bays = {4, 5, 6, 7};
        for (int b : bays) {
            x.set(columns, b);
        }
        x.set(girders, 4);
        x.set(girders, 5);
        x.set(girders, 6);
        int[] due = {42, 41, 52, 51, 62, 61, 71};
        Due.is("37 over the end of a row", x.unbuild(-1), due.length);
        for (int i = 0; i < due.length; i++) {
            Due.is("37 over the end of a row, step " + i, x.unbuild(i), due[i]);
        }
    }

    /** What is told can be done: each step by down(), to the last. */
    private static void unbuildAsItMayBeDone() {
        GlassPalace x = Palace.built();
        int steps = x.unbuild(-1);
        Due.is("37 steps", steps, 18);
        int[] due = new int[steps];
        for (int i = 0; i < steps; i++) {
            due[i] = x.unbuild(i);
        }
        for (int i = 0; i < steps; i++) {
            Due.is("37 what is left begins with the next", x.unbuild(0), due[i]);
            Due.is("37 so many are left", x.unbuild(-1), steps - i);
            int pieces = due[i] % 10 == 3 ? x.at(due[i] / 10, 3) : 1;
            for (int n = 0; n < pieces; n++) {
                Due.holds("37 it may be taken down", x.down(due[i] / 10, due[i] % 10) >= 0);
            }
        }
        Due.is("37 nothing is left", x.unbuild(-1), 0);
        Due.is("43 nothing stands", x.count(7), 0);
    }

    // ---- 38

    private static void knownNumbers() {
        GlassPalace x = new GlassPalace();
        int[] wrong = {-1, 400, MIN, MAX};
        x.come(x.order(0, 0, 1, 0), 0);
        for (int day : wrong) {
            Due.is("38 DAY " + day + ", on the site", x.known(day, false), -2);
            Due.is("38 DAY " + day + ", at the foundries", x.known(day, true), -2);
        }
        int[] right = {0, 1, 398, 399};
        for (int day : right) {
            Due.is("38 DAY " + day + ", on the site", x.known(day, false), 1);
            Due.is("38 DAY " + day + ", at the foundries", x.known(day, true), 1);
        }
    }

    private static void knownByDays() {
        GlassPalace x = new GlassPalace();
        for (int k = 0; k < 5; k++) {
            x.order(k, 0, 1, 0);
        }
        x.pass(10);
        x.come(3, 4);
        x.come(0, 10);
        x.pass(5);
        x.come(4, 0);
        int[] days = {0, 3, 4, 9, 10, 14, 15, 399};
        int[] site = {0, 0, 0, 0, 2, 2, 3, 3};
        int[] foundries = {1, 1, 2, 2, 3, 3, 3, 3};
        for (int k = 0; k < days.length; k++) {
            Due.is("38 on the site by " + days[k], x.known(days[k], false), site[k]);
            Due.is("38 at the foundries by " + days[k], x.known(days[k], true), foundries[k]);
        }
        Due.is("6 told again", x.come(3, 15), -3);
        Due.is("38 the DAY on which it was told stays", x.known(10, false), 2);
        x.tried(3, 101);
        x.sell(0, 1);
        Due.is("38 LOTS that are gone were known, too", x.known(15, false), 3);
    }
}
