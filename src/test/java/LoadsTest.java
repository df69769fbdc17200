/** Promises 20 to 26: people, loads, what breaks, rain, gutters, what stands and leaks. */
public final class LoadsTest {
    public static void main(String[] args) {
        people();
        bearsRefusals();
        loads();
        bearing();
        breaks();
        rain();
        leads();
        water();
        anyWater();
        Due.end("LoadsTest");
    }

    private static void people() {
        GlassPalace x = new GlassPalace();
        Due.is("20 people(-1, 0)", x.people(-1, 0), -1);
        Due.is("20 people(30, 999)", x.people(30, 999), -1);
        Due.is("20 people(0, -1)", x.people(0, -1), -2);
        Due.is("20 people(0, 201)", x.people(0, 201), -2);
        Due.is("20 people(0, 200)", x.people(0, 200), 0);
        Due.is("20 people(29, 5)", x.people(29, 5), 0);
        Due.is("20 people(0, 0)", x.people(0, 0), 200);
        Due.is("20 people(0, 1)", x.people(0, 1), 0);
        Due.is("20 people(29, 0)", x.people(29, 0), 5);
    }

    private static void bearsRefusals() {
        GlassPalace x = new GlassPalace();
        Due.is("21 bears(-1, 0)", x.bears(-1, 0), -1);
        Due.is("21 bears(30, 0)", x.bears(30, 0), -1);
        Due.is("21 bears(0, -1)", x.bears(0, -1), -1);
        Due.is("21 bears(0, 4)", x.bears(0, 4), -1);
        x.people(0, 200);
        for (int what = 0; what < 4; what++) {
            Due.is("21 bears(0, " + what + "): nothing there", x.bears(0, what), -5);
        }
        x.set(Due.lot(x, 1, 0, 1, 100), 0);
        int[] due = {-5, 0, -5, 1};
        for (int what = 0; what < 4; what++) {
            Due.is("21 bears(0, " + what + "): a column alone", x.bears(0, what), due[what]);
        }
    }

    private static void loads() {
        GlassPalace x = new GlassPalace();
        raise(x, 5, 100, 30);
        Due.is("21 no load", x.bears(5, 0), 0);
        x.people(5, 10);
        Due.is("21 10 people by 3", x.bears(5, 0), 30);
        Due.is("21 as much as it bears: it holds", x.bears(5, 2), 1);
        int panes = Due.lot(x, 3, 0, 9, 0);
        x.set(panes, 5);
        Due.is("21 and a pane by 2", x.bears(5, 0), 32);
        Due.is("21 more than it bears", x.bears(5, 2), 0);
        Due.is("21 the column bears it, too", x.bears(5, 1), 32);
        Due.is("21 the column holds", x.bears(5, 3), 1);
        Due.is("22 the girder breaks", x.breaks(), 32);
        Due.law(x, "load 2;snow 9", 1);
        Due.is("21 the law of today, not of tomorrow", x.bears(5, 0), 32);
        x.pass(1);
        Due.is("21 the law of today", x.bears(5, 0), 29);
        Due.is("22 nothing breaks", x.breaks(), 0);
        x.set(panes, 5);
        Due.is("21 two panes by 9", x.bears(5, 0), 38);
    }

    /** A COLUMN of that length and a GIRDER in a BAY at the end of a row. */
    private static void raise(GlassPalace x, int bay, int length, int v) {
        x.bay(bay, 0, (100 - length) / 2);
        Due.is("set a column", x.set(Due.lot(x, 1, 0, 1, length), bay), 1);
        Due.is("set a girder", x.set(Due.lot(x, 2, 0, 1, v), bay), 1);
    }

    private static void bearing() {
        GlassPalace x = new GlassPalace();
        raise(x, 5, 96, 999);
        x.bay(4, 0, 10);
        x.set(Due.lot(x, 6, 0, 1, 80), 4);
        x.set(Due.lot(x, 2, 0, 1, 999), 4);
        raise(x, 11, 60, 999);
        x.people(5, 60);
        x.people(4, 44);
        Due.is("21 the column bears both", x.bears(5, 1), 312);
        Due.is("21 600 less 288: it holds", x.bears(5, 3), 1);
        x.set(Due.lot(x, 3, 0, 1, 0), 4);
        x.people(4, 43);
        Due.is("21 311, a pane by 2", x.bears(5, 1), 311);
        Due.law(x, "snow 4", 1);
        x.pass(1);
        Due.is("21 313, a pane by 4", x.bears(5, 1), 313);
        Due.is("21 one more than 312", x.bears(5, 3), 0);
        x.down(4, 3);
        x.people(4, 44);
        Due.is("21 the one to the left bears its own alone", x.bears(4, 1), 132);
        Due.is("21 the girder alone", x.bears(5, 0), 180);
        Due.is("22 breaks()", x.breaks(), 0);
        x.people(4, 45);
        Due.is("21 315", x.bears(5, 1), 315);
        Due.is("21 it does not hold", x.bears(5, 3), 0);
        Due.is("21 its girder does", x.bears(5, 2), 1);
        Due.is("21 a wrong column of 80: 600 less 240", x.bears(4, 3), 1);
        Due.is("22 breaks()", x.breaks(), 1 << 5);
        x.people(11, 140);
        Due.is("21 600 less 180, 420", x.bears(11, 3), 1);
        x.people(11, 141);
        Due.is("21 600 less 180, 423", x.bears(11, 3), 0);
        Due.is("22 breaks()", x.breaks(), 1 << 5 | 1 << 11);
    }

    private static void breaks() {
        GlassPalace x = new GlassPalace();
        for (int b = 0; b < 30; b++) {
            x.people(b, 200);
        }
        Due.is("22 nothing stands", x.breaks(), 0);
        raise(x, 29, 100, 0);
        Due.is("22 the girder of 29", x.breaks(), 1 << 29);
        x.people(29, 0);
        Due.is("22 a load of 0", x.breaks(), 0);
        x.set(Due.lot(x, 1, 0, 1, 100), 24);
        Due.is("22 a column to the left of nothing", x.breaks(), 0);
        raise(x, 23, 100, 999);
        Due.is("22 the girder of another row's end loads no column of the next row", x.breaks(), 1 << 23);
        Due.is("21 bears(24, 1)", x.bears(24, 1), 0);
    }

    private static void rain() {
        GlassPalace x = new GlassPalace();
        Due.is("23 rain(-1, 0)", x.rain(-1, 0), -1);
        Due.is("23 rain(24, 100)", x.rain(24, 100), -1);
        Due.is("23 rain(0, -1)", x.rain(0, -1), -2);
        Due.is("23 rain(0, 100)", x.rain(0, 100), -2);
        Due.is("23 rain(0, 99)", x.rain(0, 99), 0);
        Due.is("23 rain(23, 7)", x.rain(23, 7), 0);
        Due.is("23 rain(0, 1)", x.rain(0, 1), 99);
        Due.is("23 rain(23, 0)", x.rain(23, 0), 7);
    }

    private static void leads() {
        GlassPalace x = new GlassPalace();
        raise(x, 11, 100, 99);
        Due.is("24 leads(-1, 0)", x.leads(-1, 0), -1);
        Due.is("24 leads(30, 29)", x.leads(30, 29), -1);
        Due.is("24 leads(11, -2)", x.leads(11, -2), -1);
        Due.is("24 leads(11, 30)", x.leads(11, 30), -1);
        int[] apart = {11, 12, 4, 6, 9, 16, 18, 23};
        for (int to : apart) {
            Due.is("24 leads(11, " + to + "): not beside", x.leads(11, to), -2);
        }
        int[] beside = {5, 10, 17, -1};
        for (int to : beside) {
            Due.is("24 leads(11, " + to + "): no gutter", x.leads(11, to), -3);
        }
        int gutters = Due.lot(x, 4, 0, 2, 5);
        x.set(gutters, 11);
        for (int to : beside) {
            Due.is("24 leads(11, " + to + ")", x.leads(11, to), 1);
        }
        for (int to : apart) {
            Due.is("24 leads(11, " + to + "): not beside", x.leads(11, to), -2);
        }
        Due.is("24 leads(12, 11): not beside either", x.leads(12, 11), -2);
    }

    /** BAYS 4 and 5 with columns, girders, gutters (5 an hour in 4, 3 in 5). */
    private static GlassPalace roofs() {
        GlassPalace x = new GlassPalace();
        raise(x, 5, 100, 999);
        x.set(Due.lot(x, 1, 0, 1, 100), 4);
        x.set(Due.lot(x, 2, 0, 1, 999), 4);
        x.set(Due.lot(x, 4, 0, 3, 5), 4);
        x.set(Due.lot(x, 4, 0, 3, 3), 5);
        return x;
    }

    private static void water() {
        GlassPalace x = roofs();
        int panes = Due.lot(x, 3, 0, 99, 0);
        x.rain(0, 20);
        x.rain(2, 99);
        Due.is("25 stands(-1, 0)", x.stands(-1, 0), -1);
        Due.is("25 stands(30, 0)", x.stands(30, 0), -1);
        Due.is("25 stands(0, -1)", x.stands(0, -1), -1);
        Due.is("25 stands(0, 24)", x.stands(0, 24), -1);
        Due.is("25 a bay without panes has none", x.stands(4, 0), 0);
        Due.is("26 leaks(-2)", x.leaks(-2), -5);
        Due.is("26 leaks(30)", x.leaks(30), -5);
        Due.is("26 leaks(-1)", x.leaks(-1), 0);
        for (int k = 0; k < 3; k++) {
            x.set(panes, 4);
        }
        Due.is("25 20 by 3 by 8, cut: 7, less 5", x.stands(4, 0), 2);
        Due.is("25 2, less all of it", x.stands(4, 1), 0);
        Due.is("25 99 by 3 by 8, cut: 37, less 5", x.stands(4, 2), 32);
        Due.is("25 less 5", x.stands(4, 3), 27);
        x.leads(4, 5);
        Due.is("25 it leads where no panes are: gone", x.stands(5, 1), 0);
        x.set(panes, 5);
        Due.is("25 20 by 8: 2, less 2", x.stands(5, 0), 0);
        Due.is("25 5 came, less 3", x.stands(5, 1), 2);
        Due.is("25 2, 2 came, 99 by 8: 12, less 3", x.stands(5, 2), 13);
        Due.is("25 13, 5 came, less 3", x.stands(5, 3), 15);
        x.leads(5, 4);
        Due.is("25 round about: 2 came back, gone on", x.stands(4, 1), 0);
        Due.is("25 round about: 37, 3 came, less 5", x.stands(4, 2), 35);
        x.down(5, 4);
        Due.is("25 without a gutter all of it stands", x.stands(5, 1), 7);
        Due.is("25 nothing comes back", x.stands(4, 2), 32);
        Due.is("25 set a new gutter", x.set(5, 5), 1);
        Due.is("25 a new gutter leads into the column", x.stands(4, 3), 27);
        for (int k = 0; k < 20; k++) {
            x.set(panes, 4);
        }
        Due.is("25 20 by 23 by 8: 57, less 5", x.stands(4, 0), 52);
        Due.is("25 less 5", x.stands(4, 1), 47);
        Due.is("25 47, 99 by 23 by 8: 284, less 5", x.stands(4, 2), 326);
        int leaks = 2;
        for (int stands = 326; stands > 326 - 5 * 22; stands -= 5) {
            leaks += Math.max(0, stands - 50);
        }
        Due.is("26 leaks(4)", x.leaks(4), leaks);
        Due.is("26 leaks(3)", x.leaks(3), 0);
        x.set(panes, 5);
        x.set(panes, 5);
        x.set(panes, 5);
        Due.is("25 9, 5 came, 99 by 4 by 8: 49, less 3", x.stands(5, 2), 60);
        int others = x.leaks(5);
        Due.holds("26 leaks(5) above 0", others > 0);
        Due.is("26 leaks(-1)", x.leaks(-1), leaks + others);
    }

    /** Any roofs, gutters and rain against a plain reckoning. */
    private static void anyWater() {
        Due.Dice dice = new Due.Dice(25);
        for (int run = 0; run < 60; run++) {
            GlassPalace x = new GlassPalace();
            int columns = Due.lot(x, 1, 0, 60, 100);
            int girders = Due.lot(x, 2, 0, 60, 100);
            int panes = Due.lot(x, 3, 0, 999, 0);
            int[] v = {0, 3, 8, 20, 99};
            int[] gutters = new int[v.length];
            for (int k = 0; k < v.length; k++) {
                gutters[k] = Due.lot(x, 4, 0, 60, v[k]);
            }
            int top = dice.roll(4) * 6;
            int[] glass = new int[30];
            int[] runs = new int[30];
            int[] to = new int[30];
            int[] rain = new int[24];
            for (int b = top; b < top + 12; b++) {
                x.set(columns, b);
            }
            for (int b = top; b < top + 12; b++) {
                to[b] = -1;
                runs[b] = -1;
                Due.is("girder", x.set(girders, b), 1);
                for (int n = dice.roll(3) * dice.roll(8); n > 0; n--) {
                    glass[b] += x.set(panes, b);
                }
                if (dice.roll(6) > 0) {
                    int k = dice.roll(v.length);
                    runs[b] = v[k];
                    Due.is("gutter", x.set(gutters[k], b), 1);
                    int[] beside = {-1, b - 1, b + 1, b - 6, b + 6};
                    int lead = beside[dice.roll(5)];
                    if (x.leads(b, lead) == 1) {
                        to[b] = lead;
                    }
                }
            }
            for (int h = 0; h < 24; h++) {
                rain[h] = dice.roll(2) * dice.roll(100);
                x.rain(h, rain[h]);
            }
            compare(x, dice, glass, runs, to, rain);
        }
    }

    private static void compare(GlassPalace x, Due.Dice dice, int[] glass, int[] runs, int[] to, int[] rain) {
        int[][] stands = new int[24][30];
        int[][] taken = new int[24][30];
        int[] leaks = new int[30];
        int all = 0;
        for (int h = 0; h < 24; h++) {
            for (int b = 0; b < 30; b++) {
                if (glass[b] > 0) {
                    int water = (h > 0 ? stands[h - 1][b] : 0) + rain[h] * glass[b] / 8;
                    for (int o = 0; h > 0 && o < 30; o++) {
                        water += o != b && glass[o] > 0 && to[o] == b ? taken[h - 1][o] : 0;
                    }
                    taken[h][b] = Math.min(water, Math.max(0, runs[b]));
                    stands[h][b] = water - taken[h][b];
                    leaks[b] += stands[h][b] > 50 ? stands[h][b] - 50 : 0;
                    all += stands[h][b] > 50 ? stands[h][b] - 50 : 0;
                }
            }
        }
        for (int k = 0; k < 40; k++) {
            int b = dice.roll(30);
            int h = dice.roll(24);
            Due.is("25 stands(" + b + ", " + h + ")", x.stands(b, h), stands[h][b]);
        }
        for (int b = 0; b < 30; b++) {
            Due.is("26 leaks(" + b + ")", x.leaks(b), leaks[b]);
        }
        Due.is("26 leaks(-1)", x.leaks(-1), all);
    }
}
