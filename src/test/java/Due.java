/** What the tests share: answers that are due, THE TEXT by letters, and numbers that only look random. */
final class Due {
    private static int calls = 0;
    private static int wrong = 0;

    private Due() {
    }

    static void is(String call, long got, long due) {
        calls++;
        if (got != due) {
            wrong++;
            System.out.println(call + " answered " + got + ", due is " + due);
        }
    }

    static void holds(String what, boolean so) {
        is(what, so ? 1 : 0, 1);
    }

    static void end(String name) {
        System.out.println(name + ": " + calls + " answers, " + wrong + " wrong");
        if (wrong > 0 || calls == 0) {
            System.exit(1);
        }
    }

    static void feed(GlassPalace x, String text) {
        for (int k = 0; k < text.length(); k += 4) {
            int n = Math.min(4, text.length() - k);
            int bytes = 0;
            for (int b = 0; b < n; b++) {
                bytes = bytes << 8 | text.charAt(k + b) & 255;
            }
            is("feed(" + text + ")", x.feed(bytes, n), x.count(3));
        }
    }

    static int law(GlassPalace x, String text, int day) {
        feed(x, text);
        return x.law(day);
    }

    /** A LOT of the KIND that came today: its number. */
    static int lot(GlassPalace x, int kind, int foundry, int pieces, int v) {
        int lot = x.order(kind, foundry, pieces, v);
        is("come(" + lot + ")", x.come(lot, x.count(0)), 1);
        return lot;
    }

    static final class Dice {
        private long state;

        Dice(long seed) {
            state = seed * 2862933555777941757L + 3037000493L;
        }

        /** 0 .. n - 1. */
        int roll(int n) {
            state = state * 6364136223846793005L + 1442695040888963407L;
            return (int) ((state >>> 33) % n);
        }

        int from(int least, int most) {
            return least + roll(most - least + 1);
        }
    }
}
