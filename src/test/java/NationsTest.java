/** Promises 35 to 38: spaces let in runs, the order of taking down, what was known by which day. */
public final class NationsTest {
    public static void main(String[] args) {
        let();
        giveWay();
        anyRuns();
        unbuild();
        anyPalace();
        known();
        Due.end("NationsTest");
    }

    private static void let() {
        GlassPalace x = new GlassPalace();
        Due.is("35 let(-1, 1)", x.let(-1, 1), -1);
        Due.is("35 let(8, 0)", x.let(8, 0), -1);
        Due.is("35 let(0, 0)", x.let(0, 0), -2);
        Due.is("35 let(0, 7)", x.let(0, 7), -2);
        Due.is("36 nation(-1, 0)", x.nation(-1, 0), -1);
        Due.is("36 nation(8, 0)", x.nation(8, 0), -1);
        Due.is("36 nation(0, -1)", x.nation(0, -1), -1);
        Due.is("36 nation(0, 3)", x.nation(0, 3), -1);
        Due.is("35 let(0, 4)", x.let(0, 4), 0);
        Due.is("35 let(1, 3): not over the end of a row", x.let(1, 3), 6);
        Due.is("35 let(2, 2)", x.let(2, 2), 4);
        Due.is("35 let(3, 3)", x.let(3, 3), 9);
        Due.is("36 nation(3, 0)", x.nation(3, 0), 9);
        Due.is("36 nation(3, 1)", x.nation(3, 1), 3);
        Due.is("36 nation(3, 2)", x.nation(3, 2), 0);
        Due.is("35 let(0, 4) again: its own is lost first", x.let(0, 4), 0);
        Due.is("35 let(0, 5) where the fewest give way", x.let(0, 5), 12);
        Due.is("36 nation(2, 0): none gave way", x.nation(2, 0), 4);
        Due.is("36 nation(0, 2)", x.nation(0, 2), 0);
    }

    private static void giveWay() {
        GlassPalace x = new GlassPalace();
        int[] sizes = {3, 3, 6, 6, 6, 2, 2, 2};
        int[] firsts = {0, 3, 6, 12, 18, 24, 26, 28};
        for (int n = 0; n < 8; n++) {
            Due.is("35 let(" + n + ")", x.let(n, sizes[n]), firsts[n]);
        }
        Due.is("35 let(7, 3): two others or one", x.let(7, 3), 0);
        Due.is("36 nation(0, 0)", x.nation(0, 0), -5);
        Due.is("36 nation(0, 1)", x.nation(0, 1), 0);
        Due.is("36 nation(0, 2)", x.nation(0, 2), 1);
        Due.is("36 nation(1, 2)", x.nation(1, 2), 0);
        Due.is("35 let(0, 6): one whole row", x.let(0, 6), 6);
        Due.is("36 nation(2, 2)", x.nation(2, 2), 1);
        Due.is("36 nation(2, 1)", x.nation(2, 1), 0);
        Due.is("35 let(2, 2): where 7 was", x.let(2, 2), 28);
        Due.is("35 let(2, 4): the least of several", x.let(2, 4), 6);
        Due.is("36 nation(0, 2): again", x.nation(0, 2), 2);
        Due.is("36 nation(0, 0)", x.nation(0, 0), -5);
        Due.is("35 let(3, 3): its own row is free then", x.let(3, 3), 12);
        Due.is("36 nation(3, 1)", x.nation(3, 1), 3);
        Due.is("35 let(0, 6)", x.let(0, 6), 6);
        Due.is("36 nation(2, 2)", x.nation(2, 2), 2);
        Due.is("36 nation(3, 2)", x.nation(3, 2), 0);
    }

    private static void anyRuns() {
        Due.Dice dice = new Due.Dice(35);
        for (int run = 0; run < 60; run++) {
            GlassPalace x = new GlassPalace();
            int[] owner = new int[30];
            int[] ways = new int[8];
            for (int k = 0; k < 40; k++) {
                int nation = dice.roll(8);
                int n = dice.from(1, 6);
                clear(owner, nation);
                int best = -1;
                int fewest = 99;
                for (int first = 0; first < 30; first++) {
                    if (first / 6 == (first + n - 1) / 6 && others(owner, first, n) < fewest) {
                        best = first;
                        fewest = others(owner, first, n);
                    }
                }
                for (int b = best; b < best + n; b++) {
                    if (owner[b] > 0) {
                        ways[owner[b] - 1]++;
                        clear(owner, owner[b] - 1);
                    }
                }
                for (int b = best; b < best + n; b++) {
                    owner[b] = nation + 1;
                }
                Due.is("35 let(" + nation + ", " + n + ")", x.let(nation, n), best);
            }
            for (int nation = 0; nation < 8; nation++) {
                int first = -5;
                int size = 0;
                for (int b = 29; b >= 0; b--) {
                    first = owner[b] == nation + 1 ? b : first;
                    size += owner[b] == nation + 1 ? 1 : 0;
                }
                Due.is("36 nation(" + nation + ", 0)", x.nation(nation, 0), first);
                Due.is("36 nation(" + nation + ", 1)", x.nation(nation, 1), size);
                Due.is("36 nation(" + nation + ", 2)", x.nation(nation, 2), ways[nation]);
            }
        }
    }

    private static void clear(int[] owner, int nation) {
        for (int b = 0; b < 30; b++) {
            owner[b] = owner[b] == nation + 1 ? 0 : owner[b];
        }
    }

    private static int others(int[] owner, int first, int n) {
        int bits = 0;
        for (int b = first; b < first + n; b++) {
            bits |= owner[b] > 0 ? 1 << owner[b] : 0;
        }
        return Integer.bitCount(bits);
    }

    private static void unbuild() {
        GlassPalace x = new GlassPalace();
        Due.is("37 unbuild(-1) of nothing", x.unbuild(-1), 0);
        Due.is("37 unbuild(0) of nothing", x.unbuild(0), -1);
        Due.is("37 unbuild(-2)", x.unbuild(-2), -1);
        int columns = Due.lot(x, 1, 0, 60, 100);
        int girders = Due.lot(x, 2, 0, 60, 100);
        int panes = Due.lot(x, 3, 0, 60, 0);
        int gutters = Due.lot(x, 4, 0, 60, 0);
        int odd = Due.lot(x, 5, 0, 60, 0);
        x.set(odd, 29);
        x.set(columns, 7);
        x.set(columns, 8);
        x.set(girders, 7);
        x.set(gutters, 7);
        x.set(panes, 7);
        x.set(panes, 7);
        x.set(odd, 8);
        int[] due = {74, 73, 72, 71, 85, 81, 295};
        Due.is("37 unbuild(-1)", x.unbuild(-1), due.length);
        for (int i = 0; i < due.length; i++) {
            Due.is("37 unbuild(" + i + ")", x.unbuild(i), due[i]);
        }
        Due.is("37 unbuild(7)", x.unbuild(7), -1);
        Due.is("37 unbuild(MAX)", x.unbuild(Integer.MAX_VALUE), -1);
        Due.is("37 unbuild(MIN)", x.unbuild(Integer.MIN_VALUE), -1);
        Due.is("37 nothing was taken down", x.count(7), 8);
    }

    /** Any palace: DOWN by the words of the document, from what at() tells. */
    private static void anyPalace() {
        Due.Dice dice = new Due.Dice(37);
        for (int run = 0; run < 40; run++) {
            GlassPalace x = new GlassPalace();
            int[] lots = {Due.lot(x, 1, 0, 99, 100), Due.lot(x, 2, 0, 99, 0), Due.lot(x, 3, 0, 99, 0),
                Due.lot(x, 4, 0, 99, 0), Due.lot(x, 5, 0, 99, 0)};
            for (int k = dice.roll(130); k > 0; k--) {
                x.set(lots[dice.roll(1 + dice.roll(5))], dice.roll(30));
            }
            boolean[][] there = new boolean[31][6];
            int steps = 0;
            for (int b = 0; b < 30; b++) {
                for (int place = 1; place <= 5; place++) {
                    there[b][place] = x.at(b, place) > (place == 3 ? 0 : -1);
                    steps += there[b][place] ? 1 : 0;
                }
            }
            Due.is("37 unbuild(-1)", x.unbuild(-1), steps);
            for (int i = 0; i < steps; i++) {
                int next = nextDown(there);
                there[next / 10][next % 10] = false;
                Due.is("37 unbuild(" + i + ")", x.unbuild(i), next);
            }
        }
    }

    private static int nextDown(boolean[][] there) {
        for (int b = 0; b < 30; b++) {
            for (int place = 5; place >= 1; place--) {
                boolean needed = place == 2 && (there[b][3] || there[b][4])
                    || place == 1 && (there[b][2] || b % 6 > 0 && there[b - 1][2]);
                if (there[b][place] && !needed) {
                    return 10 * b + place;
                }
            }
        }
        return 0;
    }

    private static void known() {
        GlassPalace x = new GlassPalace();
        Due.is("38 known(-1, true)", x.known(-1, true), -2);
        Due.is("38 known(400, false)", x.known(400, false), -2);
        for (int k = 0; k < 4; k++) {
            x.order(k, 0, 1, 0);
        }
        x.pass(3);
        x.come(0, 3);
        x.come(1, 1);
        x.pass(4);
        x.come(2, 1);
        int[] days = {0, 1, 2, 3, 6, 7, 399};
        int[] site = {0, 0, 0, 2, 2, 3, 3};
        int[] foundries = {0, 2, 2, 3, 3, 3, 3};
        for (int k = 0; k < days.length; k++) {
            Due.is("38 on the site by " + days[k], x.known(days[k], false), site[k]);
            Due.is("38 at the foundries by " + days[k], x.known(days[k], true), foundries[k]);
        }
    }
}
