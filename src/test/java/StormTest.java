import java.util.ArrayList;
import java.util.List;

/** All promises: no call throws, whatever it is given; refused calls change nothing; the same calls answer the same. */
public final class StormTest {
    private static final int CALLS = 47;
    private static final int[] EDGES = {-1, -2, -5, 400, 1000, 2001, Integer.MIN_VALUE, Integer.MAX_VALUE,
        Integer.MIN_VALUE + 1, Integer.MAX_VALUE - 1, 1 << 30, 60, 30, 24, 20, 10, 8};
    private static final String[] LAWS = {"pack 9", "pay 3;load 2", "snow 5;load 1", "cut t<40", "bar f=2",
        "bar d=3&f>3", "cut !(c=2|r=1)", "pa", "cut t", "bar ((((f=1)))"};

    public static void main(String[] args) {
        for (int run = 0; run < 1500; run++) {
            storm(run);
        }
        Due.end("StormTest");
    }

    private static void storm(int seed) {
        Due.Dice dice = new Due.Dice(seed);
        GlassPalace x = new GlassPalace();
        GlassPalace without = new GlassPalace();
        List<int[]> calls = new ArrayList<>();
        if (seed % 3 > 0) {
            prepare(calls, dice);
        }
        int wild = seed % 4 == 0 ? 2 : 12;
        while (calls.size() < 500) {
            calls.add(call(dice, wild));
        }
        for (int k = 0; k < calls.size(); k++) {
            int[] call = calls.get(k);
            try {
                long answer = answer(x, call);
                if (!isRefused(call[0], answer)) {
                    Due.is("run " + seed + ", call " + k + " (" + call[0] + ") without the refused ones",
                        answer(without, call), answer);
                }
            } catch (RuntimeException e) {
                Due.is("run " + seed + ", call " + k + " (" + call[0] + ") threw " + e, 1, 0);
            }
        }
        for (int what = 0; what < 10; what++) {
            Due.is("run " + seed + ", count(" + what + ")", without.count(what), x.count(what));
        }
    }

    /** Lots of all KINDS that came, columns and girders in two rows, laws, gangs. */
    private static void prepare(List<int[]> calls, Due.Dice dice) {
        for (int kind = 0; kind < 7; kind++) {
            calls.add(new int[] {5, kind, dice.roll(8), dice.from(10, 99), kind % 5 == 1 ? 100 : dice.roll(300), 0});
            calls.add(new int[] {6, kind, 0, 0, 0, 0});
        }
        for (int kind = 1; kind <= 2; kind++) {
            for (int b = 0; b < 12; b++) {
                calls.add(new int[] {12, kind, b, 0, 0, 0});
            }
        }
        for (int k = dice.roll(4); k > 0; k--) {
            String law = LAWS[dice.roll(LAWS.length)];
            for (int p = 0; p < law.length(); p++) {
                calls.add(new int[] {16, law.charAt(p), 1, 0, 0, 0});
            }
            calls.add(new int[] {17, dice.roll(9), 0, 0, 0, 0});
        }
        for (int place = 1; place <= 4; place++) {
            calls.add(new int[] {27, place, dice.from(1, 20), 0, 0, 0});
        }
    }

    private static int[] call(Due.Dice dice, int wild) {
        int[] most = {0, 0, 30, 8, 6, 60, 60, 9, 60, 60, 30, 60, 60, 30, 30, 30, 0, 20, 6, 6, 30, 30, 0, 24, 30, 30,
            30, 5, 9, 9, 6, 6, 255, 6, 0, 8, 8, 40, 40, 60, 20, 60, 6, 10, 6, 6, 6, 6};
        int[] call = new int[6];
        call[0] = dice.from(1, CALLS);
        call[1] = dice.roll(most[call[0]] + 2) - dice.roll(2);
        for (int k = 2; k < 6; k++) {
            int range = dice.roll(5);
            call[k] = dice.roll(range == 0 ? 100 : range == 1 ? 31 : 7);
        }
        if (call[0] == 28) {
            call[3] = call[1] < 4 ? call[1] + 1 : dice.roll(7);
        }
        if (dice.roll(wild) == 0) {
            call[dice.from(1, 5)] = EDGES[dice.roll(EDGES.length)];
        }
        return call;
    }

    /** Whether the call answers so that it may not have changed anything. */
    private static boolean isRefused(int call, long answer) {
        switch (call) {
            case 17: return answer == GlassPalace.BAD || answer == GlassPalace.FULL;
            case 28: return answer <= 0;
            case 39:
            case 45: return call == 45 && answer < 0;
            default: return answer < 0;
        }
    }

    private static long answer(GlassPalace x, int[] c) {
        switch (c[0]) {
            case 1: return x.count(c[1]);
            case 2: return x.pass(c[1]);
            case 3: return x.bay(c[1], c[2], c[3]);
            case 4: return x.foundry(c[1], c[2], c[3]);
            case 5: return x.order(c[1], c[2], c[3], c[4]);
            case 6: return x.come(c[1], c[2]);
            case 7: return x.of(c[2], c[1]);
            case 8: return x.tried(c[1], c[2]);
            case 9: return x.sell(c[1], c[2]);
            case 10: return x.wants(c[1]);
            case 11: return x.fit(c[1], c[2]);
            case 12: return x.set(c[1], c[2]);
            case 13: return x.at(c[1], c[2]);
            case 14: return x.down(c[1], c[2]);
            case 15: return x.cut(c[1]);
            case 16: return x.feed(c[1], c[2]);
            case 17: return x.law(c[1]);
            default: return c[0] < 35 ? middle(x, c) : late(x, c);
        }
    }

    private static long middle(GlassPalace x, int[] c) {
        switch (c[0]) {
            case 18: return x.force(c[1], c[2], c[3]);
            case 19: return x.why(c[1], c[2]);
            case 20: return x.people(c[1], c[2]);
            case 21: return x.bears(c[1], c[2]);
            case 22: return x.breaks();
            case 23: return x.rain(c[1], c[2]);
            case 24: return x.leads(c[1], c[2]);
            case 25: return x.stands(c[1], c[2]);
            case 26: return x.leaks(c[1]);
            case 27: return x.gang(c[1], c[2]);
            case 28: return x.work(c[1], c[2], c[3]);
            case 29: return x.pace(c[1]);
            case 30: return x.want(c[1], c[2], c[3]);
            case 31: return x.ahead(c[1], c[2], c[3] > 3);
            case 32: return x.lack(c[1], c[2], c[3] > 3);
            case 33: return x.more(c[1], c[2], c[3], c[4]);
            default: return x.best();
        }
    }

    private static long late(GlassPalace x, int[] c) {
        switch (c[0]) {
            case 35: return x.let(c[1], c[2]);
            case 36: return x.nation(c[1], c[2]);
            case 37: return x.unbuild(c[1]);
            case 38: return x.known(c[1], c[2] > 3);
            case 39: return x.act(c[1], c[2], c[3]);
            case 40: return x.trace(c[1]);
            case 41: return x.taken(c[1], c[2]);
            case 42: return x.list(c[1], c[2], c[3]);
            case 43: return x.count(c[1]);
            case 44: return x.tape(c[1], c[2], c[3]);
            case 45: return x.item(c[1], c[2], (long) c[3] << c[4] % 40);
            case 46: return x.read(c[1], c[2]);
            default: return x.shift(c[1], c[2], c[3], c[4], c[5]);
        }
    }
}
