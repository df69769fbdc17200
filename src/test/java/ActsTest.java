import java.util.ArrayList;
import java.util.List;

/** Promises 39 to 41, and 43: acts, the trace, what a lot may be taken for, how many there are. */
public final class ActsTest {
    private static final List<Integer> RAN = new ArrayList<>();

    public static void main(String[] args) {
        bodies();
        refusals();
        anyActs();
        taken();
        count();
        Due.end("ActsTest");
    }

    /** Lot 1 + k is of KIND k, from foundry k + 1, v 100 * k + 7. */
    private static GlassPalace lots() {
        GlassPalace x = new GlassPalace();
        x.order(0, 0, 1, 0);
        for (int k = 0; k < 7; k++) {
            x.order(k, k + 1, 1, 100 * k + 7);
        }
        return x;
    }

    private static void traced(GlassPalace x, int kind, int act, int... due) {
        Due.is("39 act(" + kind + ", " + act + ")", x.count(9), due.length);
        for (int i = 0; i < due.length; i++) {
            Due.is("40 trace(" + i + ") of act(" + kind + ", " + act + ")", x.trace(i), due[i]);
        }
        Due.is("40 trace behind its end", x.trace(due.length), -1);
        Due.is("40 trace(-1)", x.trace(-1), -1);
        Due.is("40 trace(20)", x.trace(20), -1);
    }

    private static void bodies() {
        GlassPalace x = lots();
        Due.is("39 part fits", x.act(1, 0, 5), 12);
        traced(x, 0, 0, 10);
        Due.is("39 part bears", x.act(1, 1, 5), 11);
        traced(x, 0, 1, 11, 10);
        Due.is("39 part ends", x.act(1, 2, 5), 22);
        traced(x, 0, 2, 12, 11, 10);
        Due.is("39 column fits", x.act(2, 0, 5), 112 ^ 2);
        traced(x, 1, 0, 20, 10);
        Due.is("39 column ends", x.act(2, 2, 5), ((112 ^ 2) - 2) * 2 + (108 ^ 2));
        traced(x, 1, 2, 21, 12, 11, 20, 10, 20, 10);
        Due.is("39 girder bears", x.act(3, 1, 5), 15 + 207 - 3);
        traced(x, 2, 1, 30, 11, 10);
        Due.is("39 pane fits", x.act(4, 0, 5), -312);
        traced(x, 3, 0, 40, 10);
        Due.is("39 pane bears", x.act(4, 1, 5), -316);
        traced(x, 3, 1, 11, 40, 10);
        Due.is("39 gutter bears", x.act(5, 1, 5), 412 - 5 + 409);
        traced(x, 4, 1, 50, 11, 10, 10);
        Due.is("39 odd ends", x.act(6, 2, 5), 506 - 1012);
        traced(x, 5, 2, 60, 11, 10, 12, 11, 10);
        Due.is("39 wrong fits", x.act(7, 0, 5), 610 ^ 7);
        traced(x, 6, 0, 70, 20, 10);
        Due.is("39 wrong bears", x.act(7, 1, 5), ((610 ^ 7) - 7) * 5);
        traced(x, 6, 1, 71, 11, 70, 20, 10);
        Due.is("39 wrong ends", x.act(7, 2, 5), ((610 ^ 7) - 7) * 10 + (606 ^ 7));
        traced(x, 6, 2, 21, 12, 71, 11, 70, 20, 10, 70, 20, 10);
    }

    private static void refusals() {
        int[][] none = {{-1, 0}, {8, 0}, {60, 0}, {1, -1}, {1, 3}};
        for (int[] call : none) {
            GlassPalace x = lots();
            Due.is("40 trace(0) of none", x.trace(0), -1);
            x.act(1, 2, 5);
            Due.is("39 act(" + call[0] + ", " + call[1] + ")", x.act(call[0], call[1], 5), 0);
            Due.is("43 no trace then", x.count(9), 0);
            Due.is("40 no trace then", x.trace(0), -1);
        }
    }

    // ---- the KINDS as Java has them

    private static class Part {
        final int i;
        final int f;
        final int v;

        Part(int i, int f, int v) {
            this.i = i;
            this.f = f;
            this.v = v;
        }

        int fits(int x) {
            RAN.add(10);
            return x + v;
        }

        int bears(int x) {
            RAN.add(11);
            return fits(x) - f;
        }

        int ends(int x) {
            RAN.add(12);
            return bears(x) * 2;
        }
    }

    private static class Column extends Part {
        Column(int i, int f, int v) {
            super(i, f, v);
        }

        @Override
        int fits(int x) {
            RAN.add(20);
            return super.fits(x) ^ i;
        }

        @Override
        int ends(int x) {
            RAN.add(21);
            return super.ends(x) + fits(1);
        }
    }

    private static final class Girder extends Part {
        Girder(int i, int f, int v) {
            super(i, f, v);
        }

        @Override
        int bears(int x) {
            RAN.add(30);
            return super.bears(x * 3);
        }
    }

    private static final class Pane extends Part {
        Pane(int i, int f, int v) {
            super(i, f, v);
        }

        @Override
        int fits(int x) {
            RAN.add(40);
            return -super.fits(x);
        }
    }

    private static final class Gutter extends Part {
        Gutter(int i, int f, int v) {
            super(i, f, v);
        }

        @Override
        int bears(int x) {
            RAN.add(50);
            return super.bears(x) + super.fits(2);
        }
    }

    private static final class Odd extends Part {
        Odd(int i, int f, int v) {
            super(i, f, v);
        }

        @Override
        int ends(int x) {
            RAN.add(60);
            return bears(x) - super.ends(x);
        }
    }

    private static final class Wrong extends Column {
        Wrong(int i, int f, int v) {
            super(i, f, v);
        }

        @Override
        int fits(int x) {
            RAN.add(70);
            return super.fits(x - 2);
        }

        @Override
        int bears(int x) {
            RAN.add(71);
            return super.bears(x) * 5;
        }
    }

    private static Part part(int kind, int i, int f, int v) {
        switch (kind) {
            case 0: return new Part(i, f, v);
            case 1: return new Column(i, f, v);
            case 2: return new Girder(i, f, v);
            case 3: return new Pane(i, f, v);
            case 4: return new Gutter(i, f, v);
            case 5: return new Odd(i, f, v);
            default: return new Wrong(i, f, v);
        }
    }

    private static void anyActs() {
        Due.Dice dice = new Due.Dice(39);
        for (int run = 0; run < 4; run++) {
            GlassPalace x = new GlassPalace();
            Part[] parts = new Part[60];
            for (int i = 0; i < 60; i++) {
                int kind = dice.roll(7);
                int f = dice.roll(8);
                int v = dice.roll(1000);
                parts[i] = part(kind, i, f, v);
                x.order(kind, f, 1, v);
            }
            for (int i = run % 2; i < 60; i += 2) {
                for (int act = 0; act < 3; act++) {
                    anyAct(x, dice, parts[i], act);
                }
            }
        }
    }

    private static void anyAct(GlassPalace x, Due.Dice dice, Part part, int act) {
        int[] edges = {0, 1, -1, Integer.MAX_VALUE, Integer.MIN_VALUE, Integer.MAX_VALUE / 3 + 1, 1 << 30};
        int value = dice.roll(2) == 0 ? edges[dice.roll(edges.length)] : dice.from(-3000, 3000);
        RAN.clear();
        int due = act == 0 ? part.fits(value) : act == 1 ? part.bears(value) : part.ends(value);
        Due.is("39 act(" + part.i + ", " + act + ", " + value + ")", x.act(part.i, act, value), due);
        Due.is("43 count(9)", x.count(9), RAN.size());
        int last = dice.roll(RAN.size());
        Due.is("40 trace(" + last + ")", x.trace(last), RAN.get(last));
    }

    private static void taken() {
        GlassPalace x = lots();
        Due.is("41 taken(1, -1)", x.taken(1, -1), -2);
        Due.is("41 taken(1, 7)", x.taken(1, 7), -2);
        Due.is("41 taken(99, 7): BAD ahead of NOTHING", x.taken(99, 7), -2);
        Due.is("41 taken(-1, 0)", x.taken(-1, 0), -11);
        Due.is("41 taken(8, 0)", x.taken(8, 0), -11);
        for (int kind = 0; kind < 7; kind++) {
            for (int k = 0; k < 7; k++) {
                boolean under = k == 0 || k == kind || k == 1 && kind == 6;
                Due.is("41 taken(" + kind + ", " + k + ")", x.taken(kind + 1, k), under ? kind : -12);
            }
        }
    }

    private static void count() {
        GlassPalace x = new GlassPalace();
        Due.is("43 count(-1)", x.count(-1), -2);
        Due.is("43 count(10)", x.count(10), -2);
        x.pass(6);
        Due.law(x, "pay 1", 0);
        Due.law(x, "pay 1", 0);
        Due.feed(x, "pay");
        int odd = Due.lot(x, 5, 0, 20, 0);
        for (int b = 0; b < 8; b++) {
            x.set(odd, b);
        }
        x.down(3, 5);
        for (int k = 0; k < 5; k++) {
            x.gang(1, 1);
            x.tried(odd, 101);
        }
        for (int k = 0; k < 4; k++) {
            x.want(1, 1, 1);
            x.order(1, 1, 1, 1);
        }
        for (int k = 0; k < 6; k++) {
            x.more(1, 1, 1, 1);
        }
        x.act(0, 2, 0);
        int[] due = {6, 5, 2, 3, 5, 4, 6, 7, 5, 6};
        for (int what = 0; what < due.length; what++) {
            Due.is("43 count(" + what + ")", x.count(what), due[what]);
        }
    }
}
