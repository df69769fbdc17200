/** Promises 39 to 47, edge by edge: acts and their trace, kinds, lists, counts, tapes, items, shifts. */
public final class TapesEdgesTest {
    private static final int MIN = Integer.MIN_VALUE, MAX = Integer.MAX_VALUE;
    private static final long NO = Long.MIN_VALUE;

    public static void main(String[] args) {
        actNumbers();
        actsThatWrap();
        bodiesByKind();
        traceNumbers();
        traceOfTheLatest();
        takenNumbers();
        takenUnder();
        listNumbers();
        listOfNoInts();
        listToItsEnd();
        listOfTwentyPairs();
        listOfLots();
        listOfMissingRow();
        countNumbers();
        countOfWhatStands();
        tapeNumbers();
        tapeThatHoldsNothing();
        tapeAnew();
        itemPlaces();
        itemBits();
        readPlaces();
        shiftPlaces();
        shiftOfNone();
        shiftWithinOne();
        shiftBetween();
        lastCalls();
        Due.end("TapesEdgesTest");
    }

    // ---- 39, 40

    private static void actNumbers() {
        int[] lots = {-1, 1, 59, 60, MIN, MAX};
        int[] acts = {-1, 3, MIN, MAX};
        for (int lot : lots) {
            for (int act = 0; act < 3; act++) {
                refusedAct(lot, act);
            }
        }
        for (int act : acts) {
            refusedAct(0, act);
            refusedAct(60, act);
        }
    }

    private static void refusedAct(int lot, int act) {
        GlassPalace x = new GlassPalace();
        x.order(0, 0, 1, 5);
        Due.is("39 an act ahead of it", x.act(0, 2, 1), 12);
        Due.is("43 its bodies", x.count(9), 3);
        Due.is("39 LOT " + lot + ", act " + act, x.act(lot, act, 7), 0);
        Due.is("43 no TRACE then", x.count(9), 0);
        Due.is("40 no TRACE then", x.trace(0), -1);
        Due.is("39 an act behind it", x.act(0, 0, 1), 6);
        Due.is("40 its TRACE", x.trace(0), 10);
    }

    private static void actsThatWrap() {
        int[] xs = {MIN, MIN + 1, -1, 0, 1, MAX - 1, MAX, 1 << 30, 1431655766, -1431655766};
        GlassPalace x = new GlassPalace();
        for (int kind = 0; kind <= 6; kind++) {
            x.order(kind, 7, 1, 999);
        }
        for (int n : xs) {
            Due.is("39 PART fits, x " + n, x.act(0, 0, n), n + 999);
            Due.is("39 PART bears, x " + n, x.act(0, 1, n), n + 999 - 7);
            Due.is("39 PART ends, x " + n, x.act(0, 2, n), (n + 992) * 2);
            Due.is("39 COLUMN fits, x " + n, x.act(1, 0, n), n + 999 ^ 1);
            Due.is("39 COLUMN ends, x " + n, x.act(1, 2, n), ((n + 999 ^ 1) - 7) * 2 + (1000 ^ 1));
            Due.is("39 GIRDER bears, x " + n, x.act(2, 1, n), n * 3 + 992);
            Due.is("39 GIRDER ends, x " + n, x.act(2, 2, n), (n * 3 + 992) * 2);
            Due.is("39 PANE fits, x " + n, x.act(3, 0, n), -(n + 999));
            Due.is("39 PANE ends, x " + n, x.act(3, 2, n), (-(n + 999) - 7) * 2);
            Due.is("39 GUTTER bears, x " + n, x.act(4, 1, n), n + 992 + 1001);
            Due.is("39 ODD ends, x " + n, x.act(5, 2, n), n + 992 - (n + 992) * 2);
            Due.is("39 WRONG fits, x " + n, x.act(6, 0, n), n - 2 + 999 ^ 6);
            Due.is("39 WRONG bears, x " + n, x.act(6, 1, n), ((n + 997 ^ 6) - 7) * 5);
            Due.is("39 WRONG ends, x " + n, x.act(6, 2, n), ((n + 997 ^ 6) - 7) * 10 + (998 ^ 6));
        }
    }

    private static void bodiesByKind() {
        int[][][] due = {
            {{10}, {11, 10}, {12, 11, 10}},
            {{20, 10}, {11, 20, 10}, {21, 12, 11, 20, 10, 20, 10}},
            {{10}, {30, 11, 10}, {12, 30, 11, 10}},
            {{40, 10}, {11, 40, 10}, {12, 11, 40, 10}},
            {{10}, {50, 11, 10, 10}, {12, 50, 11, 10, 10}},
            {{10}, {11, 10}, {60, 11, 10, 12, 11, 10}},
            {{70, 20, 10}, {71, 11, 70, 20, 10}, {21, 12, 71, 11, 70, 20, 10, 70, 20, 10}}};
        GlassPalace x = new GlassPalace();
        for (int kind = 0; kind <= 6; kind++) {
            x.order(kind, 1, 1, 1);
            for (int act = 0; act < 3; act++) {
                x.act(kind, act, 3);
                Due.is("43 bodies of KIND " + kind + ", act " + act, x.count(9), due[kind][act].length);
                for (int i = 0; i < due[kind][act].length; i++) {
                    Due.is("40 KIND " + kind + ", act " + act + ", body " + i, x.trace(i), due[kind][act][i]);
                }
                Due.is("40 none behind the last", x.trace(due[kind][act].length), -1);
            }
        }
    }

    private static void traceNumbers() {
        GlassPalace x = new GlassPalace();
        int[] none = {-1, 0, 19, 20, MIN, MAX};
        for (int i : none) {
            Due.is("40 no act yet, i " + i, x.trace(i), -1);
        }
        x.order(6, 0, 1, 0);
        x.act(0, 2, 0);
        Due.is("40 the last of ten", x.trace(9), 10);
        int[] beyond = {-1, 10, 11, 19, 20, 21, MIN, MAX};
        for (int i : beyond) {
            Due.is("40 of ten, i " + i, x.trace(i), -1);
        }
    }

    private static void traceOfTheLatest() {
        GlassPalace x = new GlassPalace();
        x.order(6, 0, 1, 0);
        x.order(0, 0, 1, 0);
        x.act(0, 2, 0);
        x.act(1, 0, 0);
        Due.is("43 the latest act's alone", x.count(9), 1);
        Due.is("40 the latest act's", x.trace(0), 10);
        Due.is("40 nothing of the one ahead", x.trace(1), -1);
        x.taken(0, 0);
        x.order(0, 0, 0, 0);
        Due.is("40 other calls leave it", x.trace(0), 10);
    }

    // ---- 41

    private static void takenNumbers() {
        GlassPalace x = new GlassPalace();
        x.order(0, 0, 1, 0);
        int[] ks = {-1, 7, MIN, MAX};
        int[] lots = {-1, 1, 59, 60, MIN, MAX};
        for (int k : ks) {
            Due.is("41 KIND " + k, x.taken(0, k), -2);
            for (int lot : lots) {
                Due.is("41 KIND " + k + ", LOT " + lot, x.taken(lot, k), -2);
            }
        }
        for (int lot : lots) {
            for (int k = 0; k <= 6; k++) {
                Due.is("41 LOT " + lot, x.taken(lot, k), -11);
            }
        }
        Due.is("41 KIND 0", x.taken(0, 0), 0);
        Due.is("41 KIND 6", x.taken(0, 6), -12);
    }

    private static void takenUnder() {
        GlassPalace x = new GlassPalace();
        for (int kind = 0; kind <= 6; kind++) {
            x.order(kind, 0, 1, 0);
            for (int k = 0; k <= 6; k++) {
                boolean under = k == kind || k == 0 || k == 1 && kind == 6;
                Due.is("41 KIND " + kind + " for " + k, x.taken(kind, k), under ? kind : -12);
            }
        }
    }

    // ---- 42

    private static void listNumbers() {
        GlassPalace x = new GlassPalace();
        int[] tapes = {-1, 6, MIN, MAX};
        int[] ns = {-1, 0, 21, MIN, MAX};
        x.tape(0, 2, 60);
        x.tape(5, 2, 60);
        for (int tape : tapes) {
            Due.is("42 TAPE " + tape, x.list(tape, 0, 1), NO);
            Due.is("42 TAPE " + tape + ", n 0", x.list(tape, 0, 0), NO);
        }
        for (int n : ns) {
            Due.is("42 n " + n, x.list(0, 0, n), NO);
            Due.is("42 n " + n + ", nothing there", x.list(1, 0, n), NO);
        }
        Due.is("42 n 1", x.list(0, 0, 1), 1);
        Due.is("42 n 20", x.list(0, 0, 20), 20);
        Due.is("42 TAPE 5", x.list(5, 0, 2), 2);
    }

    private static void listOfNoInts() {
        GlassPalace x = new GlassPalace();
        for (int sort = 0; sort <= 4; sort++) {
            x.tape(sort, sort, 4);
            Due.is("42 sort " + sort, x.list(sort, 0, 2), sort == 2 ? 2 : NO + 1);
            Due.is("42 sort " + sort + ", i beyond its end", x.list(sort, 4, 2), sort == 2 ? 1000000 : NO + 1);
            Due.is("42 sort " + sort + ", n 21", x.list(sort, 0, 21), NO);
            x.tape(sort, sort, 0);
            Due.is("42 sort " + sort + ", a row of none", x.list(sort, 0, 1), sort == 2 ? 1000000 : NO + 1);
        }
    }

    private static void listToItsEnd() {
        for (int size = 0; size <= 5; size++) {
            GlassPalace x = new GlassPalace();
            x.tape(0, 2, size);
            for (int i = -3; i <= size + 1; i++) {
                for (int n = 1; n <= 4; n++) {
                    int whole = i < 0 ? 0 : Math.max(0, Math.min(n, (size - i) / 2));
                    Due.is("42 of " + size + " from " + i + ", " + n + " pairs", x.list(0, i, n),
                        whole + (whole < n ? 1000000 : 0));
                }
            }
        }
        GlassPalace x = new GlassPalace();
        x.tape(0, 2, 60);
        Due.is("42 the last pair", x.list(0, 58, 1), 1);
        Due.is("42 half a pair", x.list(0, 59, 1), 1000000);
        Due.is("42 behind the end", x.list(0, 60, 1), 1000000);
        Due.is("42 the least int", x.list(0, MIN, 20), 1000000);
        Due.is("42 the greatest int", x.list(0, MAX, 20), 1000000);
        Due.is("42 the greatest int but one", x.list(0, MAX - 1, 20), 1000000);
    }

    private static void listOfTwentyPairs() {
        GlassPalace x = new GlassPalace();
        x.come(x.order(0, 0, 7, 0), 0);
        x.tape(0, 2, 40);
        for (int k = 0; k < 20; k++) {
            x.item(0, 2 * k + 1, 7);
        }
        Due.is("42 20 that AGREE", x.list(0, 0, 20), 20000);
        Due.is("42 19 that AGREE, TORN", x.list(0, 2, 20), 1019000);
        x.item(0, 39, 6);
        Due.is("42 the last is WRONG", x.list(0, 0, 20), 19001);
        x.item(0, 1, 8);
        Due.is("42 the first is WRONG, too", x.list(0, 0, 20), 18002);
        Due.is("42 the first alone", x.list(0, 0, 1), 1);
    }

    private static void listOfLots() {
        GlassPalace x = new GlassPalace();
        x.come(x.order(0, 0, 1, 0), 0);
        for (int k = 1; k < 59; k++) {
            x.order(0, 0, k, 0);
        }
        x.come(x.order(0, 0, 999, 0), 0);
        int[][] pairs = {{0, 1, 1000}, {0, 0, 1}, {0, 2, 1}, {59, 999, 1000}, {59, 998, 1}, {59, 1000, 1}, {1, 1, 1},
            {1, 0, 1}, {-1, 0, 1}, {-1, 1, 1}, {60, 999, 1}, {MIN, 1, 1}, {MAX, 999, 1}, {0, MIN, 1}, {0, -1, 1}};
        x.tape(0, 2, 2);
        for (int[] pair : pairs) {
            x.item(0, 0, pair[0]);
            x.item(0, 1, pair[1]);
            Due.is("42 LOT " + pair[0] + " with " + pair[1], x.list(0, 0, 1), pair[2]);
        }
        x.pass(5);
        x.come(1, 5);
        x.item(0, 0, 1);
        x.item(0, 1, 1);
        Due.is("42 it came TODAY", x.list(0, 0, 1), 1000);
        x.sell(1, 1);
        Due.is("42 it came with so many, though they are sold", x.list(0, 0, 1), 1000);
    }

    private static void listOfMissingRow() {
        GlassPalace x = new GlassPalace();
        int[] places = {0, -1, 60, MIN, MAX};
        for (int i : places) {
            Due.is("42 the row is missing, i " + i, x.list(0, i, 1), 1000000);
            Due.is("42 the row is missing, i " + i, x.list(5, i, 20), 1000000);
        }
        x.tape(0, 2, 2);
        x.tape(0, -1, 0);
        Due.is("42 the row is missing again", x.list(0, 0, 1), 1000000);
    }

    // ---- 43

    private static void countNumbers() {
        GlassPalace x = new GlassPalace();
        int[] none = {-1, 10, 11, MIN, MAX};
        for (int what : none) {
            Due.is("43 what " + what, x.count(what), -2);
        }
        for (int what = 0; what <= 9; what++) {
            Due.is("43 what " + what, x.count(what), 0);
        }
        GlassPalace y = Palace.built();
        int[] due = {3, 11, 2, 3, 4, 2, 2, 28, 1, 10};
        for (int what = 0; what <= 9; what++) {
            Due.is("43 what " + what, y.count(what), due[what]);
        }
        for (int what : none) {
            Due.is("43 what " + what, y.count(what), -2);
        }
    }

    private static void countOfWhatStands() {
        GlassPalace x = new GlassPalace();
        int[] kinds = {1, 2, 3, 4, 5, 6};
        int[] pieces = {1, 1, 24, 1, 1, 1};
        int stands = 0;
        for (int k = 0; k < kinds.length; k++) {
            int lot = Due.lot(x, kinds[k], 0, 30, 100);
            for (int n = 0; n < pieces[k]; n++) {
                Due.is("12 set", x.set(lot, kinds[k] == 6 ? 28 : 29), 1);
                stands++;
                Due.is("43 PIECES that stand", x.count(7), stands);
            }
            x.tried(lot, 101);
            Due.is("43 broken ones", x.count(8), k + 1);
        }
    }

    // ---- 44

    private static void tapeNumbers() {
        GlassPalace x = new GlassPalace();
        int[] tapes = {-1, 6, MIN, MAX};
        int[] sorts = {-2, 5, 6, MIN, MAX};
        int[] above = {61, 62, MAX};
        int[] below = {-1, -2, MIN};
        for (int tape : tapes) {
            Due.is("44 TAPE " + tape, x.tape(tape, 0, 5), -1);
            Due.is("44 TAPE " + tape + ", sort 5", x.tape(tape, 5, 5), -1);
            Due.is("44 TAPE " + tape + ", n 61", x.tape(tape, 0, 61), -1);
            Due.is("44 TAPE " + tape + ", n -1", x.tape(tape, 0, -1), -1);
            Due.is("44 TAPE " + tape + ", nothing", x.tape(tape, -1, 0), -1);
        }
        for (int sort : sorts) {
            Due.is("44 sort " + sort, x.tape(0, sort, 5), -2);
            Due.is("44 sort " + sort + ", n -1", x.tape(5, sort, -1), -2);
            Due.is("44 sort " + sort + ", n 61", x.tape(5, sort, 61), -2);
        }
        for (int sort = 0; sort <= 4; sort++) {
            for (int n : above) {
                Due.is("44 sort " + sort + ", n " + n, x.tape(sort, sort, n), -2);
            }
            for (int n : below) {
                Due.is("44 sort " + sort + ", n " + n, x.tape(sort, sort, n), -14);
            }
            Due.is("44 it holds nothing still", x.item(sort, 0, 0), -11);
            Due.is("44 sort " + sort + ", n 60", x.tape(sort, sort, 60), 1);
            Due.is("44 its last item", x.read(sort, 59), 0);
            Due.is("44 none behind it", x.read(sort, 60), NO);
            Due.is("44 sort " + sort + ", n 1", x.tape(sort, sort, 1), 1);
            Due.is("44 its last item", x.read(sort, 0), 0);
            Due.is("44 none behind it", x.read(sort, 1), NO);
            Due.is("44 sort " + sort + ", n 0", x.tape(sort, sort, 0), 1);
            Due.is("44 no item", x.read(sort, 0), NO);
            Due.is("44 a row of none is a row", x.item(sort, 0, 0), -13);
        }
        Due.is("44 TAPE 5", x.tape(5, 0, 1), 1);
    }

    private static void tapeThatHoldsNothing() {
        int[] sizes = {-1, 0, 1, 60, 61, MIN, MAX};
        for (int n : sizes) {
            GlassPalace x = new GlassPalace();
            x.tape(0, 2, 5);
            Due.is("44 sort -1, n " + n + " does not matter", x.tape(0, -1, n), 1);
            Due.is("45 nothing is there", x.item(0, 0, 1), -11);
            Due.is("46 nothing is there", x.read(0, 0), NO);
            Due.is("47 nothing is there", x.shift(0, 0, 0, 0, 0), -11);
            Due.is("44 sort -1 where nothing is, n " + n, x.tape(0, -1, n), 1);
            Due.is("44 a row again", x.tape(0, 2, 5), 1);
            Due.is("44 all 0", x.read(0, 4), 0);
        }
    }

    private static void tapeAnew() {
        for (int sort = 0; sort <= 4; sort++) {
            GlassPalace x = new GlassPalace();
            x.tape(0, 3, 60);
            for (int i = 0; i < 60; i++) {
                x.item(0, i, -1L);
            }
            Due.is("44 of another sort", x.tape(0, sort, 60), 1);
            for (int i = 0; i < 60; i++) {
                Due.is("44 all 0: item " + i, x.read(0, i), 0);
            }
            x.item(0, 0, 1);
            Due.is("44 refused: as it was", x.tape(0, sort, 61), -2);
            Due.is("44 refused: as it was", x.read(0, 0), 1);
            Due.is("44 refused: as it was", x.tape(0, sort, -1), -14);
            Due.is("44 refused: as it was", x.read(0, 0), 1);
        }
    }

    // ---- 45, 46

    private static void itemPlaces() {
        GlassPalace x = new GlassPalace();
        int[] tapes = {-1, 6, MIN, MAX};
        for (int tape : tapes) {
            Due.is("45 TAPE " + tape, x.item(tape, 0, 1), -1);
            Due.is("45 TAPE " + tape + ", i -1", x.item(tape, -1, 1), -1);
        }
        int[] sizes = {0, 1, 2, 59, 60};
        for (int size : sizes) {
            x.tape(5, 3, size);
            int[] none = {-1, size, size + 1, 60, 61, MIN, MAX};
            for (int i : none) {
                Due.is("45 of " + size + ", i " + i, x.item(5, i, 1), -13);
                Due.is("46 of " + size + ", i " + i, x.read(5, i), NO);
            }
            if (size > 0) {
                Due.is("45 of " + size + ", the first", x.item(5, 0, 7), 1);
                Due.is("45 of " + size + ", the last", x.item(5, size - 1, 8), 1);
                Due.is("46 of " + size + ", the first", x.read(5, 0), size == 1 ? 8 : 7);
                Due.is("46 of " + size + ", the last", x.read(5, size - 1), 8);
            }
        }
        x.tape(5, -1, 0);
        int[] places = {-1, 0, 60, MIN, MAX};
        for (int i : places) {
            Due.is("45 nothing there, i " + i, x.item(5, i, 1), -11);
        }
    }

    private static void itemBits() {
        long[] vs = {0, 1, -1, 2, 127, 128, -128, -129, 255, 256, 32767, 32768, -32768, -32769, 65535, 65536,
            2147483647L, 2147483648L, -2147483648L, -2147483649L, 4294967295L, 4294967296L, Long.MAX_VALUE,
            Long.MIN_VALUE, Long.MIN_VALUE + 1, 1L << 62};
        GlassPalace x = new GlassPalace();
        for (int sort = 0; sort <= 4; sort++) {
            x.tape(0, sort, 1);
            for (long v : vs) {
                long bits = sort == 0 ? 8 : sort == 1 ? 16 : sort == 2 ? 32 : 64;
                long due = sort == 4 ? v == 0 ? 0 : 1 : v << 64 - bits >> 64 - bits;
                x.item(0, 0, v);
                Due.is("45 sort " + sort + ", v " + v, x.read(0, 0), due);
            }
        }
    }

    private static void readPlaces() {
        GlassPalace x = new GlassPalace();
        int[] tapes = {-1, 6, MIN, MAX};
        for (int tape : tapes) {
            Due.is("46 TAPE " + tape, x.read(tape, 0), NO);
        }
        for (int tape = 0; tape < 6; tape++) {
            Due.is("46 nothing there", x.read(tape, 0), NO);
            x.tape(tape, 3, 2);
            Due.is("46 all 0", x.read(tape, 1), 0);
            x.item(tape, 1, tape + 1);
        }
        for (int tape = 0; tape < 6; tape++) {
            Due.is("46 its own item", x.read(tape, 1), tape + 1);
        }
        x.item(0, 0, Long.MIN_VALUE);
        Due.is("46 an item may be as low as NO", x.read(0, 0), Long.MIN_VALUE);
    }

    // ---- 47

    private static GlassPalace twoRows() {
        GlassPalace x = new GlassPalace();
        x.tape(0, 2, 5);
        x.tape(1, 2, 3);
        for (int i = 0; i < 5; i++) {
            x.item(0, i, 10 + i);
        }
        for (int i = 0; i < 3; i++) {
            x.item(1, i, 20 + i);
        }
        return x;
    }

    private static void shiftPlaces() {
        for (int i = -1; i <= 6; i++) {
            for (int j = -1; j <= 4; j++) {
                GlassPalace x = twoRows();
                for (int n = -1; n <= 6; n++) {
                    boolean right = n >= 0 && i >= 0 && j >= 0 && i + n <= 5 && j + n <= 3;
                    Due.is("47 from " + i + " to " + j + ", " + n, x.shift(0, i, 1, j, n), right ? n : -13);
                }
            }
        }
        GlassPalace x = twoRows();
        int[][] wrong = {{MAX, 0, 1}, {0, MAX, 1}, {1, 1, MAX}, {MIN, 0, 1}, {0, MIN, 1}, {0, 0, MIN}, {MAX, MAX, MAX},
            {MIN, MIN, MIN}, {MAX, 0, 0}, {0, MAX, 0}, {1 << 30, 0, 1 << 30}};
        for (int[] w : wrong) {
            Due.is("47 from " + w[0] + " to " + w[1] + ", " + w[2], x.shift(0, w[0], 1, w[1], w[2]), -13);
        }
        for (int i = 0; i < 5; i++) {
            Due.is("46 nothing came", x.read(0, i), 10 + i);
            Due.is("46 nothing came", x.read(1, i), i < 3 ? 20 + i : NO);
        }
    }

    private static void shiftOfNone() {
        GlassPalace x = twoRows();
        int[][] ends = {{0, 0}, {5, 3}, {5, 0}, {0, 3}};
        for (int[] e : ends) {
            Due.is("47 none from " + e[0] + " to " + e[1], x.shift(0, e[0], 1, e[1], 0), 0);
        }
        Due.is("47 none from behind the end", x.shift(0, 6, 1, 0, 0), -13);
        Due.is("47 none to behind the end", x.shift(0, 0, 1, 4, 0), -13);
        x.tape(2, 2, 0);
        Due.is("47 none of a row of none", x.shift(2, 0, 2, 0, 0), 0);
        Due.is("47 one of a row of none", x.shift(2, 0, 0, 0, 1), -13);
        Due.is("47 one to a row of none", x.shift(0, 0, 2, 0, 1), -13);
        for (int i = 0; i < 3; i++) {
            Due.is("46 nothing came", x.read(1, i), 20 + i);
        }
    }

    private static void shiftWithinOne() {
        int[][] due = {{0, 1, 4}, {1, 0, 4}, {0, 2, 3}, {2, 0, 3}, {0, 0, 5}, {0, 4, 1}, {4, 0, 1}, {1, 3, 2}};
        for (int[] d : due) {
            for (int sort = 0; sort <= 3; sort++) {
                GlassPalace x = new GlassPalace();
                x.tape(3, sort, 5);
                int[] row = {10, 11, 12, 13, 14};
                for (int i = 0; i < 5; i++) {
                    x.item(3, i, row[i]);
                }
                int[] were = row.clone();
                for (int k = 0; k < d[2]; k++) {
                    row[d[1] + k] = were[d[0] + k];
                }
                Due.is("47 within one", x.shift(3, d[0], 3, d[1], d[2]), d[2]);
                for (int i = 0; i < 5; i++) {
                    Due.is("47 as they all were before: item " + i, x.read(3, i), row[i]);
                }
            }
        }
    }

    private static void shiftBetween() {
        GlassPalace x = twoRows();
        Due.is("47 all of the shorter", x.shift(1, 0, 0, 2, 3), 3);
        int[] due = {10, 11, 20, 21, 22};
        for (int i = 0; i < 5; i++) {
            Due.is("46 item " + i, x.read(0, i), due[i]);
        }
        Due.is("47 one back", x.shift(0, 0, 1, 2, 1), 1);
        Due.is("46 it came", x.read(1, 2), 10);
        Due.is("46 it is there still", x.read(0, 0), 10);
        for (int sort = 0; sort <= 4; sort++) {
            x.tape(2, sort, 3);
            Due.is("47 ints to sort " + sort, x.shift(1, 0, 2, 0, 3), sort == 2 ? 3 : -12);
            Due.is("47 sort " + sort + " to ints", x.shift(2, 0, 1, 0, 3), sort == 2 ? 3 : -12);
        }
        int[] none = {-1, 6, MIN, MAX};
        for (int tape : none) {
            Due.is("47 TAPE " + tape, x.shift(tape, 0, 0, 0, 1), -1);
            Due.is("47 other " + tape, x.shift(0, 0, tape, 0, 1), -1);
            Due.is("47 both " + tape, x.shift(tape, 0, tape, 0, 1), -1);
        }
        x.tape(3, 4, 3);
        x.tape(4, 4, 2);
        x.item(3, 2, 9);
        Due.is("47 booleans", x.shift(3, 1, 4, 0, 2), 2);
        Due.is("46 booleans", x.read(4, 0), 0);
        Due.is("46 booleans", x.read(4, 1), 1);
        Due.is("47 TAPE 5 holds nothing", x.shift(5, 0, 0, 0, 1), -11);
        x.tape(5, 2, 60);
        Due.is("47 to TAPE 5", x.shift(0, 0, 5, 55, 5), 5);
        Due.is("46 its last item", x.read(5, 59), 22);
    }

    /** The last of 512 calls answers as the first. */
    private static void lastCalls() {
        GlassPalace x = new GlassPalace();
        x.order(6, 0, 1, 0);
        x.tape(0, 0, 60);
        for (int k = 2; k < 510; k++) {
            Due.is("call " + k, x.act(0, 2, k), 10 * (k - 2) - 1);
        }
        Due.is("the last call but one", x.item(0, 59, -129), 1);
        Due.is("the last call", x.read(0, 59), 127);
    }
}
