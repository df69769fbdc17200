/** Promises 42, 44 to 47: lists, tapes and their items. */
public final class TapesTest {
    private static final long NO = Long.MIN_VALUE;

    public static void main(String[] args) {
        list();
        listEdges();
        tape();
        item();
        shift();
        anyShifts();
        Due.end("TapesTest");
    }

    private static void list() {
        GlassPalace x = new GlassPalace();
        x.pass(1);
        for (int k = 0; k < 3; k++) {
            Due.lot(x, 1, 0, 5 + k, 100);
        }
        x.order(1, 0, 9, 100);
        x.sell(0, 3);
        int[] ints = {0, 5, 1, 6, 1, 7, 2, 2, 3, 9, 4, 9, -1, 0, 60, 1};
        x.tape(3, 2, ints.length + 1);
        for (int i = 0; i < ints.length; i++) {
            x.item(3, i, ints[i]);
        }
        int[] each = {1000, 1000, 1, 1, 1, 1, 1, 1};
        long all = 0;
        for (int n = 1; n <= 8; n++) {
            all += each[n - 1];
            Due.is("42 pair " + n, x.list(3, 2 * n - 2, 1), each[n - 1]);
            Due.is("42 list(3, 0, " + n + ")", x.list(3, 0, n), all);
        }
        Due.is("42 torn behind the last", x.list(3, 0, 9), all + 1000000);
        Due.is("42 torn, however many more", x.list(3, 0, 20), all + 1000000);
        x.come(3, 1);
        Due.is("42 the lot came", x.list(3, 8, 1), 1000);
        Due.is("42 from another place: pairs (5, 1), (6, 1)", x.list(3, 1, 2), 2);
    }

    private static void listEdges() {
        GlassPalace x = new GlassPalace();
        Due.is("42 list(-1, 0, 1)", x.list(-1, 0, 1), NO);
        Due.is("42 list(6, 0, 1)", x.list(6, 0, 1), NO);
        Due.is("42 list(0, 0, 0)", x.list(0, 0, 0), NO);
        Due.is("42 list(0, 0, 21)", x.list(0, 0, 21), NO);
        Due.is("42 the row is missing", x.list(0, 0, 20), 1000000);
        for (int sort = 0; sort < 5; sort++) {
            x.tape(0, sort, 4);
            Due.is("42 a row of sort " + sort, x.list(0, 0, 1), sort == 2 ? 1 : NO + 1);
            Due.is("42 a row of sort " + sort + ", n", x.list(0, 0, 21), NO);
        }
        x.tape(0, 2, 4);
        int[] torn = {-1, -2, 3, 4, 5, Integer.MAX_VALUE, Integer.MAX_VALUE - 1, Integer.MIN_VALUE};
        for (int i : torn) {
            Due.is("42 list(0, " + i + ", 20)", x.list(0, i, 20), 1000000);
        }
        Due.is("42 list(0, 2, 2)", x.list(0, 2, 2), 1000001);
        x.tape(0, 2, 0);
        Due.is("42 a row of none", x.list(0, 0, 1), 1000000);
    }

    private static void tape() {
        GlassPalace x = new GlassPalace();
        Due.is("44 tape(-1, 0, 0)", x.tape(-1, 0, 0), -1);
        Due.is("44 tape(6, 9, 0)", x.tape(6, 9, 0), -1);
        Due.is("44 tape(0, -2, 0)", x.tape(0, -2, 0), -2);
        Due.is("44 tape(0, 5, -1): BAD ahead of SIZE", x.tape(0, 5, -1), -2);
        Due.is("44 tape(0, 0, 61)", x.tape(0, 0, 61), -2);
        Due.is("44 tape(0, 0, -1)", x.tape(0, 0, -1), -14);
        Due.is("44 tape(0, 4, MIN)", x.tape(0, 4, Integer.MIN_VALUE), -14);
        Due.is("44 tape(0, 3, MAX)", x.tape(0, 3, Integer.MAX_VALUE), -2);
        Due.is("44 it holds nothing still", x.item(0, 0, 0), -11);
        Due.is("44 tape(0, 3, 60)", x.tape(0, 3, 60), 1);
        Due.is("44 its last item", x.item(0, 59, 7), 1);
        Due.is("44 its first item", x.item(0, 0, 7), 1);
        Due.is("44 refused", x.tape(0, 3, 61), -2);
        Due.is("44 as it was", x.read(0, 59), 7);
        Due.is("44 tape(0, 3, 60) anew", x.tape(0, 3, 60), 1);
        Due.is("44 all 0", x.read(0, 59), 0);
        Due.is("44 all 0", x.read(0, 0), 0);
        x.item(0, 3, 5);
        Due.is("44 tape(0, 3, 3)", x.tape(0, 3, 3), 1);
        Due.is("44 behind its end", x.read(0, 3), NO);
        Due.is("44 tape(0, 3, 0)", x.tape(0, 3, 0), 1);
        Due.is("44 a row of none has no item", x.item(0, 0, 0), -13);
        int[] sizes = {-1, 61, Integer.MIN_VALUE, Integer.MAX_VALUE};
        for (int n : sizes) {
            x.tape(5, 4, 1);
            Due.is("44 tape(5, -1, " + n + ")", x.tape(5, -1, n), 1);
            Due.is("44 nothing is there", x.item(5, 0, 0), -11);
            Due.is("46 nothing is there", x.read(5, 0), NO);
        }
    }

    private static void item() {
        GlassPalace x = new GlassPalace();
        long[] values = {0, 1, -1, 127, 128, 200, -129, 32767, 32768, 70000, -32769, 1L << 31, (1L << 31) - 1,
            9999999999L, 1L << 32, 1L << 63, Long.MAX_VALUE};
        for (int sort = 0; sort < 5; sort++) {
            x.tape(sort, sort, 20);
            for (int i = 0; i < values.length; i++) {
                long v = values[i];
                long[] due = {(byte) v, (short) v, (int) v, v, v == 0 ? 0 : 1};
                Due.is("45 item(" + sort + ", " + i + ", " + v + ")", x.item(sort, i, v), 1);
                Due.is("46 read(" + sort + ", " + i + ") of " + v, x.read(sort, i), due[sort]);
            }
        }
        Due.is("45 item(-1, 0, 0)", x.item(-1, 0, 0), -1);
        Due.is("45 item(6, 0, 0)", x.item(6, 0, 0), -1);
        Due.is("45 item(5, -1, 0): NOTHING ahead of PLACE", x.item(5, -1, 0), -11);
        int[] beyond = {-1, 20, Integer.MAX_VALUE, Integer.MIN_VALUE};
        for (int i : beyond) {
            Due.is("45 item(0, " + i + ", 0)", x.item(0, i, 0), -13);
            Due.is("46 read(0, " + i + ")", x.read(0, i), NO);
        }
        Due.is("46 read(-1, 0)", x.read(-1, 0), NO);
        Due.is("46 read(6, 0)", x.read(6, 0), NO);
        Due.is("46 read(5, 0)", x.read(5, 0), NO);
    }

    private static void shift() {
        GlassPalace x = new GlassPalace();
        x.tape(0, 2, 5);
        x.tape(1, 2, 3);
        x.tape(2, 1, 5);
        Due.is("47 shift(-1, 0, 9, 0, 0)", x.shift(-1, 0, 9, 0, 0), -1);
        Due.is("47 shift(5, 0, 6, 0, 0): NONE ahead of NOTHING", x.shift(5, 0, 6, 0, 0), -1);
        Due.is("47 shift(5, 0, 0, 0, 0)", x.shift(5, 0, 0, 0, 0), -11);
        Due.is("47 shift(0, 0, 5, -1, 0)", x.shift(0, 0, 5, -1, 0), -11);
        Due.is("47 shift(0, -1, 2, 0, 0): CAST ahead of PLACE", x.shift(0, -1, 2, 0, 0), -12);
        int[][] wrong = {{-1, 0, 1}, {0, -1, 1}, {0, 0, -1}, {0, 0, 4}, {3, 0, 3}, {0, 2, 2}, {6, 0, 0}, {0, 4, 0},
            {5, 0, 1}, {0, 3, 1}, {Integer.MAX_VALUE, 0, 1}, {0, Integer.MAX_VALUE, 1}, {1, 1, Integer.MAX_VALUE},
            {Integer.MIN_VALUE, 0, Integer.MIN_VALUE}};
        for (int[] w : wrong) {
            Due.is("47 shift(0, " + w[0] + ", 1, " + w[1] + ", " + w[2] + ")", x.shift(0, w[0], 1, w[1], w[2]), -13);
        }
        int[][] right = {{5, 3, 0}, {0, 0, 0}, {2, 0, 3}, {4, 2, 1}};
        for (int[] r : right) {
            Due.is("47 shift(0, " + r[0] + ", 1, " + r[1] + ", " + r[2] + ")", x.shift(0, r[0], 1, r[1], r[2]), r[2]);
        }
    }

    private static void anyShifts() {
        Due.Dice dice = new Due.Dice(47);
        for (int run = 0; run < 40; run++) {
            GlassPalace x = new GlassPalace();
            int sort = dice.roll(5);
            int[] sizes = {dice.from(1, 60), dice.from(1, 60)};
            long[][] rows = {new long[sizes[0]], new long[sizes[1]]};
            for (int t = 0; t < 2; t++) {
                x.tape(t, sort, sizes[t]);
                for (int i = 0; i < sizes[t]; i++) {
                    rows[t][i] = dice.roll(sort == 4 ? 2 : 100);
                    x.item(t, i, rows[t][i]);
                }
            }
            for (int k = 0; k < 20; k++) {
                int from = dice.roll(2);
                int to = dice.roll(2);
                int i = dice.roll(sizes[from]);
                int j = dice.roll(sizes[to]);
                int n = dice.roll(Math.min(sizes[from] - i, sizes[to] - j) + 1);
                long[] were = rows[from].clone();
                for (int m = 0; m < n; m++) {
                    rows[to][j + m] = were[i + m];
                }
                Due.is("47 shift", x.shift(from, i, to, j, n), n);
            }
            for (int t = 0; t < 2; t++) {
                for (int i = 0; i < sizes[t]; i++) {
                    Due.is("47 read(" + t + ", " + i + ")", x.read(t, i), rows[t][i]);
                }
            }
        }
    }
}
