import java.util.ArrayList;
import java.util.List;

/** Promises 27 to 34: gangs and their pace, what is wanted, what will have come, lacks, additions. */
public final class DaysTest {
    public static void main(String[] args) {
        gang();
        workRefusals();
        workPlaces();
        workBeside();
        pace();
        want();
        ahead();
        lack();
        more();
        best();
        bestOfTwo();
        anyPlan();
        Due.end("DaysTest");
    }

    private static void gang() {
        GlassPalace x = new GlassPalace();
        Due.is("27 gang(0, 1)", x.gang(0, 1), -1);
        Due.is("27 gang(5, 0)", x.gang(5, 0), -1);
        Due.is("27 gang(1, 0)", x.gang(1, 0), -2);
        Due.is("27 gang(1, 21)", x.gang(1, 21), -2);
        for (int k = 0; k < 10; k++) {
            Due.is("27 gang " + k, x.gang(1 + k % 4, 1 + k * 19 / 9), k);
        }
        Due.is("27 gang 10", x.gang(1, 1), -4);
        Due.is("27 gang 10: BAD ahead of FULL", x.gang(1, 0), -2);
        Due.is("27 gang 10: NONE ahead of FULL", x.gang(5, 1), -1);
        Due.is("27 count(4)", x.count(4), 10);
        Due.is("29 pace(-1)", x.pace(-1), -1);
        Due.is("29 pace(10)", x.pace(10), -1);
        Due.is("29 pace(0)", x.pace(0), 1);
        Due.is("29 pace(9)", x.pace(9), 20);
        Due.is("29 pace(1) of none", new GlassPalace().pace(1), -1);
    }

    private static void workRefusals() {
        GlassPalace x = new GlassPalace();
        int columns = Due.lot(x, 1, 0, 3, 100);
        int girders = Due.lot(x, 2, 0, 3, 100);
        int odd = Due.lot(x, 5, 0, 3, 0);
        int part = Due.lot(x, 0, 0, 3, 0);
        int gang = x.gang(1, 5);
        Due.is("28 work(-1, 0, 0)", x.work(-1, 0, columns), -1);
        Due.is("28 work(1, 0, 0)", x.work(1, 0, columns), -1);
        Due.is("28 work(0, -1, 0)", x.work(gang, -1, columns), -1);
        Due.is("28 work(0, 30, 0)", x.work(gang, 30, columns), -1);
        Due.is("28 work(0, 0, -1)", x.work(gang, 0, -1), -1);
        Due.is("28 work(0, 0, 9)", x.work(gang, 0, 9), -1);
        Due.is("28 work with girders", x.work(gang, 0, girders), -12);
        Due.is("28 work with odd ones", x.work(gang, 0, odd), -12);
        Due.is("28 work with parts", x.work(gang, 0, part), -12);
        int short1 = Due.lot(x, 1, 0, 3, 99);
        Due.is("28 work: its length", x.work(gang, 0, short1), -5);
        x.bay(0, 1, 5);
        Due.is("28 work: a tree", x.work(gang, 0, columns), -6);
        x.set(columns, 1);
        Due.is("28 work: no room", x.work(gang, 1, columns), -4);
        x.sell(columns, 2);
        Due.is("28 work: none in stock", x.work(gang, 2, columns), 0);
        int broken = Due.lot(x, 1, 1, 3, 100);
        x.tried(broken, 101);
        Due.is("28 work: barred", x.work(gang, 2, broken), -2);
        int more = Due.lot(x, 6, 2, 3, 100);
        Due.is("28 work: a wrong one is a column; refusals were no work", x.work(gang, 2, more), 1);
        Due.is("28 work: one bay a day", x.work(gang, 3, more), -3);
        Due.is("28 work: nor there again", x.work(gang, 2, more), -3);
        Due.is("28 work: CAST ahead of STATE", x.work(gang, 3, girders), -12);
        Due.is("28 of(more, 6)", x.of(more, 6), 2);
        x.pass(1);
        Due.is("28 work: fit's answer the next day", x.work(gang, 2, more), -4);
        Due.is("28 work: the next day", x.work(gang, 3, more), 1);
    }

    private static void workPlaces() {
        GlassPalace x = frame();
        int panes = Due.lot(x, 3, 0, 20, 0);
        int gutters = Due.lot(x, 4, 0, 20, 9);
        int glaziers = x.gang(3, 8);
        int plumbers = x.gang(4, 8);
        int others = x.gang(3, 20);
        Due.is("28 panes: as many as its pace", x.work(glaziers, 0, panes), 8);
        Due.is("28 at(0, 3)", x.at(0, 3), 8);
        Due.is("28 another gang that day", x.work(plumbers, 0, gutters), -3);
        Due.is("28 gutters: one finds room", x.work(plumbers, 1, gutters), 1);
        Due.is("28 panes: as many as are in stock", x.work(others, 2, panes), 12);
        Due.is("28 of(panes, 6)", x.of(panes, 6), 0);
        x.pass(1);
        Due.is("28 none in stock", x.work(others, 3, panes), 0);
        int more = Due.lot(x, 3, 0, 99, 0);
        Due.is("28 panes: as many as find room", x.work(others, 2, more), 12);
        Due.is("28 at(2, 3)", x.at(2, 3), 24);
        Due.is("28 count(7)", x.count(7), 6 + 6 + 8 + 1 + 24);
    }

    /** A row of columns and girders in BAYS 0 .. 5. */
    private static GlassPalace frame() {
        GlassPalace x = new GlassPalace();
        int columns = Due.lot(x, 1, 0, 60, 100);
        int girders = Due.lot(x, 2, 0, 60, 100);
        for (int b = 0; b < 6; b++) {
            x.set(columns, b);
        }
        for (int b = 0; b < 6; b++) {
            Due.is("girder", x.set(girders, b), 1);
        }
        return x;
    }

    private static void workBeside() {
        int[] beside = {1, 6, 8, 13};
        int[] apart = {0, 2, 12, 14, 9, 19, 5, 11};
        for (int b : beside) {
            besideGirders(b, -3, -3);
            besidePanes(b, -3, 2);
        }
        for (int b : apart) {
            besideGirders(b, 1, 2);
            besidePanes(b, 1, 2);
        }
        GlassPalace x = rows();
        Due.is("28 girders at the end of a row", x.work(0, 11, 1), 1);
        Due.is("28 the next bay by number is not beside", x.work(1, 12, 1), 1);
    }

    /** Columns everywhere; gangs 0, 1 for girders, 2, 3 for panes; lots 1 girders, 2 panes. */
    private static GlassPalace rows() {
        GlassPalace x = new GlassPalace();
        int columns = Due.lot(x, 1, 0, 60, 100);
        Due.lot(x, 2, 0, 60, 100);
        Due.lot(x, 3, 0, 99, 0);
        for (int b = 0; b < 30; b++) {
            x.set(columns, b);
        }
        x.gang(2, 1);
        x.gang(2, 1);
        x.gang(3, 2);
        x.gang(3, 2);
        return x;
    }

    private static void besideGirders(int bay, int girders, int panes) {
        GlassPalace x = rows();
        x.work(0, 7, 1);
        Due.is("28 girders in 7, and in " + bay, x.work(1, bay, 1), girders);
        x = rows();
        x.set(1, bay);
        x.work(0, 7, 1);
        Due.is("28 girders in 7, panes in " + bay, x.work(2, bay, 2), panes);
        x.pass(1);
        if (panes < 0) {
            Due.is("28 the next day panes in " + bay, x.work(2, bay, 2), 2);
        }
    }

    private static void besidePanes(int bay, int girders, int panes) {
        GlassPalace x = rows();
        x.set(1, 7);
        x.work(2, 7, 2);
        Due.is("28 panes in 7, girders in " + bay, x.work(0, bay, 1), girders);
        x = rows();
        x.set(1, 7);
        x.set(1, bay);
        x.work(2, 7, 2);
        Due.is("28 panes in 7, and in " + bay, x.work(3, bay, 2), panes);
    }

    private static void pace() {
        GlassPalace x = frame();
        int panes = Due.lot(x, 3, 0, 999, 0);
        int gang = x.gang(3, 17);
        int slow = x.gang(3, 9);
        int[] due = {17, 7, 19, 5, 20, 4};
        int[] paces = {18, 19, 21, 21, 23, 24};
        for (int day = 0; day < due.length; day++) {
            int bay = day / 2;
            Due.is("28 day " + day, x.work(gang, bay, panes), due[day]);
            Due.is("29 pace behind day " + day, x.pace(gang), Math.min(20, paces[day]));
            x.pass(1);
        }
        Due.is("28 9 set", x.work(slow, 3, panes), 9);
        Due.is("29 not yet 10", x.pace(slow), 9);
        x.pass(1);
        int columns = Due.lot(x, 1, 0, 9, 100);
        Due.is("28 at a place of another kind", x.work(slow, 7, columns), -12);
        Due.is("28 9 more", x.work(slow, 4, panes), 9);
        Due.is("29 18", x.pace(slow), 10);
        x.down(4, 3);
        Due.is("29 taken down, but it was set", x.pace(slow), 10);
        x.down(4, 3);
        int ten = x.gang(3, 10);
        x.down(3, 3);
        x.pass(1);
        Due.is("28 10 set", x.work(ten, 3, panes), 10);
        Due.is("29 10", x.pace(ten), 11);
    }

    private static void want() {
        GlassPalace x = new GlassPalace();
        Due.is("30 want(0, 1, 0)", x.want(0, 1, 0), -1);
        Due.is("30 want(6, 0, 0)", x.want(6, 0, 0), -1);
        Due.is("30 want(1, 0, 0)", x.want(1, 0, 0), -2);
        Due.is("30 want(1, 1000, 0)", x.want(1, 1000, 0), -2);
        Due.is("30 want(1, 1, -1)", x.want(1, 1, -1), -2);
        Due.is("30 want(1, 1, 400)", x.want(1, 1, 400), -2);
        for (int k = 1; k <= 20; k++) {
            Due.is("30 want " + k, x.want(1 + k % 5, k == 1 ? 999 : k, k == 2 ? 399 : k - 1), k);
        }
        Due.is("30 want 21", x.want(1, 1, 0), -4);
        Due.is("30 want 21: BAD ahead of FULL", x.want(1, 0, 0), -2);
        Due.is("30 want 21: NONE ahead of FULL", x.want(0, 1, 0), -1);
        Due.is("30 count(5)", x.count(5), 20);
    }

    private static void ahead() {
        GlassPalace x = new GlassPalace();
        Due.is("31 ahead(0, 0, true)", x.ahead(0, 0, true), -1);
        Due.is("31 ahead(6, 400, true)", x.ahead(6, 400, true), -1);
        Due.is("31 ahead(1, -1, true)", x.ahead(1, -1, true), -2);
        Due.is("31 ahead(1, 400, false)", x.ahead(1, 400, false), -2);
        x.foundry(2, 3, 8);
        x.pass(10);
        x.order(1, 2, 5, 100);
        x.order(6, 2, 100, 100);
        x.order(1, 0, 20, 100);
        int[] days = {12, 13, 16, 17, 399};
        int[] soonest = {0, 5, 5, 25, 25};
        for (int k = 0; k < days.length; k++) {
            Due.is("31 soonest, day " + days[k], x.ahead(1, days[k], false), soonest[k]);
        }
        int[] lateDays = {17, 18, 23, 24};
        int[] latest = {0, 5, 5, 25};
        for (int k = 0; k < lateDays.length; k++) {
            Due.is("31 latest, day " + lateDays[k], x.ahead(1, lateDays[k], true), latest[k]);
        }
        x.pass(2);
        x.come(0, 11);
        Due.is("31 it came on 11", x.ahead(1, 10, false), 0);
        Due.is("31 it came on 11", x.ahead(1, 11, true), 5);
        x.sell(0, 2);
        x.set(0, 0);
        x.tried(0, 101);
        Due.is("31 pieces that came, wherever they are now", x.ahead(1, 11, true), 5);
        x.more(1, 7, 0, 1);
        Due.is("31 without additions", x.ahead(1, 11, true), 5);
        x.pass(50);
        x.come(2, 62);
        Due.is("31 it came, later than at the latest", x.ahead(1, 61, true), 5);
        Due.is("31 it came", x.ahead(1, 62, false), 25);
        Due.is("31 girders", x.ahead(2, 399, true), 0);
    }

    private static void lack() {
        GlassPalace x = new GlassPalace();
        Due.is("32 lack(0, -1, true)", x.lack(0, -1, true), -1);
        Due.is("32 lack(1, 2, true): NONE ahead of BAD", x.lack(1, 2, true), -1);
        Due.is("32 lack(-1, 0, true)", x.lack(-1, 0, true), -2);
        Due.is("32 lack(1, 0, true)", x.lack(1, 0, true), -2);
        Due.is("32 lack(0, 0, true)", x.lack(0, 0, true), -5);
        Due.is("32 lack(0, 1, true)", x.lack(0, 1, true), -5);
        x.order(2, 0, 10, 100);
        x.want(2, 6, 20);
        Due.is("32 10 by 14", x.lack(0, 0, true), -5);
        x.want(2, 4, 14);
        Due.is("32 no more than will have come", x.lack(0, 0, true), -5);
        x.want(2, 1, 20);
        Due.is("32 all rows together", x.lack(0, 0, true), 20);
        Due.is("32 the kind", x.lack(0, 1, true), 2);
        x.want(2, 1, 13);
        Due.is("32 the first day", x.lack(0, 0, true), 13);
        Due.is("32 at the soonest", x.lack(0, 0, false), 20);
        x.want(4, 3, 13);
        Due.is("32 the least kind", x.lack(0, 1, true), 2);
        x.want(1, 3, 13);
        Due.is("32 the least kind", x.lack(0, 1, true), 1);
        Due.is("32 at the soonest, the kind", x.lack(0, 1, false), 1);
        x.more(1, 3, 13, 5);
        x.more(2, 1, 13, 5);
        x.more(4, 3, 14, 5);
        Due.is("32 with an addition of columns", x.lack(1, 1, true), 2);
        Due.is("32 with one of girders", x.lack(2, 1, true), 1);
        Due.is("32 with both", x.lack(3, 1, true), 4);
        Due.is("32 with all: the last is too late", x.lack(7, 0, true), 13);
        Due.is("32 lack(8, 0, true)", x.lack(8, 0, true), -2);
        x.more(4, 3, 13, 5);
        Due.is("32 in time: then the lack of day 20", x.lack(11, 0, true), 20);
    }

    private static void more() {
        GlassPalace x = new GlassPalace();
        Due.is("33 more(0, 1, 0, 0)", x.more(0, 1, 0, 0), -1);
        Due.is("33 more(6, 0, 0, 0)", x.more(6, 0, 0, 0), -1);
        Due.is("33 more(1, 0, 0, 0)", x.more(1, 0, 0, 0), -2);
        Due.is("33 more(1, 1000, 0, 0)", x.more(1, 1000, 0, 0), -2);
        Due.is("33 more(1, 1, -1, 0)", x.more(1, 1, -1, 0), -2);
        Due.is("33 more(1, 1, 400, 0)", x.more(1, 1, 400, 0), -2);
        Due.is("33 more(1, 1, 0, -1)", x.more(1, 1, 0, -1), -2);
        Due.is("33 more(1, 1, 0, 1000)", x.more(1, 1, 0, 1000), -2);
        Due.is("33 more(1, 999, 399, 999)", x.more(1, 999, 399, 999), 0);
        Due.is("33 more(5, 1, 0, 0)", x.more(5, 1, 0, 0), 1);
        for (int k = 2; k < 8; k++) {
            Due.is("33 more " + k, x.more(1, 1, 0, 0), k);
        }
        Due.is("33 more 8", x.more(1, 1, 0, 0), -4);
        Due.is("33 more 8: BAD ahead of FULL", x.more(1, 0, 0, 0), -2);
        Due.is("33 count(6)", x.count(6), 8);
        Due.is("32 lack(255, 0, true)", x.lack(255, 0, true), -5);
        Due.is("32 lack(256, 0, true)", x.lack(256, 0, true), -2);
    }

    private static void best() {
        GlassPalace x = new GlassPalace();
        x.more(3, 5, 9, 8);
        Due.is("34 nothing is wanted", x.best(), 0);
        x.want(3, 5, 8);
        Due.is("34 no set does", x.best(), -5);
        x.more(3, 5, 8, 30);
        Due.is("34 the one in time", x.best(), 2);
        x.more(3, 4, 8, 20);
        x.more(3, 1, 8, 10);
        Due.is("34 as much coin, but fewer", x.best(), 2);
        x.more(3, 5, 2, 30);
        Due.is("34 as many: the least as bits", x.best(), 2);
        x.more(3, 3, 2, 9);
        Due.is("34 more of them for less", x.best(), 4 | 32);
        x.more(3, 1, 2, 0);
        Due.is("34 three for 19", x.best(), 8 | 32 | 64);
        x.more(3, 1, 0, 0);
        Due.is("34 three for 9", x.best(), 32 | 64 | 128);
        x.order(3, 0, 1, 0);
        Due.is("34 not at the latest", x.best(), 32 | 64 | 128);
        x.foundry(0, 1, 8);
        Due.is("34 at the latest, two do of those of 0", x.best(), 32 | 64);
    }

    private static void bestOfTwo() {
        GlassPalace x = new GlassPalace();
        x.want(5, 5, 30);
        x.more(5, 3, 30, 10);
        x.more(5, 2, 30, 10);
        Due.is("34 two for 20", x.best(), 3);
        x.more(5, 5, 30, 20);
        Due.is("34 one for 20, that came later", x.best(), 4);
        x.more(5, 9, 30, 21);
        Due.is("34 one for 21", x.best(), 4);
        x.more(5, 2, 30, 9);
        Due.is("34 two for 19", x.best(), 17);
        x.more(5, 3, 30, 10);
        Due.is("34 two for 19 again: the least as bits", x.best(), 17);
        x.more(5, 9, 30, 0);
        Due.is("34 one for nothing", x.best(), 64);
        x.more(4, 9, 30, 0);
        Due.is("34 for nothing, too, but more", x.best(), 64);
        x.want(4, 9, 30);
        Due.is("34 both kinds", x.best(), 192);
    }

    /** Any plan: LACK day by day from ahead(), BEST from lack() of all sets; each on an object of its own. */
    private static void anyPlan() {
        for (int run = 0; run < 300; run++) {
            List<int[]> wants = new ArrayList<>();
            List<int[]> adds = new ArrayList<>();
            GlassPalace x = planned(run, wants, adds);
            bestOfAll(x, adds.toArray(new int[0][]));
            Due.Dice dice = new Due.Dice(32 + run);
            for (int k = 0; k < 3; k++) {
                wants.clear();
                adds.clear();
                x = planned(run, wants, adds);
                lackDayByDay(x, dice.roll(1 << adds.size()), dice.roll(2) == 0, wants.toArray(new int[0][]),
                    adds.toArray(new int[0][]));
            }
        }
    }

    private static GlassPalace planned(int run, List<int[]> wants, List<int[]> adds) {
        Due.Dice dice = new Due.Dice(run);
        GlassPalace x = new GlassPalace();
        int kinds = dice.from(1, 5);
        for (int k = dice.roll(12); k > 0; k--) {
            x.order(dice.roll(7), dice.roll(8), dice.from(1, 20), 0);
            x.pass(dice.from(1, 3));
            if (dice.roll(3) == 0) {
                x.come(x.count(1) - 1, x.count(0) - dice.roll(2));
            }
        }
        for (int k = dice.roll(run % 4 == 0 ? 21 : 4); k > 0; k--) {
            int[] want = {dice.from(1, kinds), dice.from(1, 40), dice.roll(40)};
            x.want(want[0], want[1], want[2]);
            wants.add(want);
        }
        for (int k = dice.roll(9); k > 0; k--) {
            int[] add = {dice.from(1, kinds), dice.from(1, 40), dice.roll(12), dice.roll(4)};
            Due.is("33 more", x.more(add[0], add[1], add[2], add[3]), adds.size());
            adds.add(add);
        }
        return x;
    }

    private static void lackDayByDay(GlassPalace x, int set, boolean latest, int[][] wants, int[][] adds) {
        int day = -5;
        int kind = -5;
        for (int d = 39; d >= 0; d--) {
            for (int k = 5; k >= 1; k--) {
                int left = x.ahead(k, d, latest);
                for (int[] want : wants) {
                    left -= want[0] == k && want[2] <= d ? want[1] : 0;
                }
                for (int a = 0; a < adds.length; a++) {
                    left += (set & 1 << a) != 0 && adds[a][0] == k && adds[a][2] <= d ? adds[a][1] : 0;
                }
                if (left < 0) {
                    day = d;
                    kind = k;
                }
            }
        }
        Due.is("32 lack(" + set + ", 0, " + latest + ")", x.lack(set, 0, latest), day);
        Due.is("32 lack(" + set + ", 1, " + latest + ")", x.lack(set, 1, latest), kind);
    }

    private static void bestOfAll(GlassPalace x, int[][] adds) {
        int best = -5;
        long least = Long.MAX_VALUE;
        for (int set = 0; set < 1 << adds.length; set++) {
            long coin = 0;
            for (int a = 0; a < adds.length; a++) {
                coin += (set & 1 << a) != 0 ? adds[a][3] : 0;
            }
            long weight = (coin * 9 + Integer.bitCount(set)) * 256 + set;
            if (weight < least && x.lack(set, 0, true) == -5) {
                best = set;
                least = weight;
            }
        }
        Due.is("34 best()", x.best(), best);
    }
}
