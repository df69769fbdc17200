import java.util.ArrayList;
import java.util.List;

/**
 * A palace in use, built the same again and again, and all that can be read out of one: so that of a refused call
 * can be told whether it changed anything. An object is good for 512 calls, so it is read out part by part, each
 * part from a palace of its own.
 */
final class Palace {
    /** Lots of the built one, in the order of their numbers. */
    static final int COLUMNS = 0, GIRDERS = 1, PANES = 2, GUTTERS = 3, ODDS = 4, WRONGS = 5, PARTS = 6, SHORT = 7,
        WAITED_PANES = 8, BROKEN = 9, WAITED_COLUMNS = 10, LOTS = 11;
    static final int TODAY = 3;
    private static final int LOOKS = 16;
    private static final int[][] ORDERS = {{1, 0, 40, 100}, {2, 1, 20, 150}, {3, 2, 99, 0}, {4, 3, 9, 20},
        {5, 4, 5, 7}, {6, 0, 3, 96}, {0, 5, 9, 9}, {1, 0, 2, 94}};

    interface Call {
        long on(GlassPalace x);
    }

    interface Steps {
        void on(GlassPalace x);
    }

    private Palace() {
    }

    /** A call that is refused on the built palace, and that changes nothing. */
    static void refused(String what, long due, Call call) {
        refused(what, due, x -> { }, call);
    }

    /** A call that is refused once those steps are done, and that changes nothing. */
    static void refused(String what, long due, Steps ahead, Call call) {
        for (int look = 0; look < LOOKS; look++) {
            GlassPalace with = built();
            GlassPalace without = built();
            ahead.on(with);
            ahead.on(without);
            Due.is(what, call.on(with), due);
            same(what + " changes nothing, look " + look, look(with, look), look(without, look));
        }
    }

    static void same(String what, List<Long> got, List<Long> due) {
        Due.is(what + ": how much is read", got.size(), due.size());
        for (int k = 0; k < Math.min(got.size(), due.size()); k++) {
            Due.is(what + ", answer " + k, got.get(k), due.get(k));
        }
    }

    static void feed(GlassPalace x, String text) {
        for (int k = 0; k < text.length(); k++) {
            x.feed(text.charAt(k), 1);
        }
    }

    static int law(GlassPalace x, String text, int day) {
        feed(x, text);
        return x.law(day);
    }

    static GlassPalace built() {
        GlassPalace x = new GlassPalace();
        x.foundry(3, 2, 5);
        x.foundry(7, 1, 60);
        x.bay(0, 0, 3);
        x.bay(9, 1, 30);
        x.bay(10, 1, 60);
        x.bay(20, 0, 20);
        for (int[] lot : ORDERS) {
            x.come(x.order(lot[0], lot[1], lot[2], lot[3]), 0);
        }
        law(x, "pack 4;pay 7;bar f=6", 0);
        x.pass(TODAY);
        x.order(3, 6, 12, 0);
        x.come(x.order(2, 1, 4, 999), 3);
        x.order(1, 7, 6, 100);
        law(x, "cut t<40;load 2", 3);
        raise(x);
        use(x);
        return x;
    }

    private static void raise(GlassPalace x) {
        x.set(SHORT, 0);
        int[] columns = {1, 2, 3, 4, 5, 7};
        for (int b : columns) {
            x.set(COLUMNS, b);
        }
        x.set(WRONGS, 6);
        int[] girders = {0, 1, 5, 6};
        for (int b : girders) {
            x.set(GIRDERS, b);
        }
        x.set(PANES, 0);
        x.set(PANES, 0);
        x.set(GUTTERS, 0);
        x.leads(0, 1);
        x.set(PANES, 1);
        x.set(GUTTERS, 1);
        x.set(ODDS, 8);
        x.set(ODDS, 9);
    }

    private static void use(GlassPalace x) {
        x.people(0, 49);
        x.people(1, 60);
        x.people(29, 200);
        x.rain(0, 8);
        x.rain(1, 40);
        x.rain(23, 99);
        x.gang(3, 9);
        x.gang(2, 2);
        x.gang(1, 20);
        x.gang(4, 1);
        x.work(0, 1, PANES);
        x.tried(BROKEN, 1000);
        x.sell(PANES, 5);
        x.want(3, 95, 10);
        x.want(5, 1, 12);
        x.more(3, 6, 9, 20);
        x.more(5, 1, 12, 3);
        int[] runs = {6, 4, 3, 2, 6, 6, 6};
        for (int nation = 0; nation < runs.length; nation++) {
            x.let(nation, runs[nation]);
        }
        x.act(WRONGS, 2, 4);
        x.tape(0, 2, 6);
        x.tape(1, 0, 3);
        x.tape(2, 3, 60);
        x.tape(3, 4, 2);
        x.tape(4, 1, 0);
        x.item(0, 1, 40);
        x.item(0, 5, -7);
        x.item(1, 0, 200);
        x.item(2, 59, 1L << 40);
        x.item(3, 1, 1);
        feed(x, "pay");
    }

    /** A part of what can be read; the palace is not as it was then. */
    static List<Long> look(GlassPalace x, int part) {
        List<Long> row = new ArrayList<>();
        switch (part) {
            case 0: lookAtBooks(x, row); break;
            case 1: case 2: case 3: case 4: lookAtLots(x, row, 15 * (part - 1)); break;
            case 5: lookAtPlaces(x, row); break;
            case 6: lookAtLoads(x, row); break;
            case 7: lookAtWater(x, row); break;
            case 8: lookAtPeople(x, row); break;
            case 9: lookAtGround(x, row); break;
            case 10: lookAtLaws(x, row); break;
            case 11: lookAtPlan(x, row); break;
            case 12: case 13: lookAtTapes(x, row, 3 * (part - 12)); break;
            case 14: lookAtFoundries(x, row); break;
            default: lookAtGangs(x, row);
        }
        return row;
    }

    private static void lookAtBooks(GlassPalace x, List<Long> row) {
        for (int what = 0; what < 10; what++) {
            row.add((long) x.count(what));
        }
        for (int k = 0; k < 24; k++) {
            row.add((long) x.nation(k / 3, k % 3));
        }
        for (int i = 0; i < 20; i++) {
            row.add((long) x.trace(i));
        }
        for (int i = -1; i < 60; i++) {
            row.add((long) x.unbuild(i));
        }
        for (int day = 0; day < 5; day++) {
            row.add((long) x.known(day, false));
            row.add((long) x.known(day, true));
        }
        for (int g = 0; g < 10; g++) {
            row.add((long) x.pace(g));
        }
    }

    private static void lookAtLots(GlassPalace x, List<Long> row, int first) {
        for (int lot = first; lot < first + 15; lot++) {
            for (int what = 0; what < 9; what++) {
                row.add((long) x.of(lot, what));
            }
        }
    }

    private static void lookAtPlaces(GlassPalace x, List<Long> row) {
        for (int b = 0; b < 30; b++) {
            row.add((long) x.wants(b));
            for (int place = 1; place <= 5; place++) {
                row.add((long) x.at(b, place));
            }
        }
    }

    private static void lookAtLoads(GlassPalace x, List<Long> row) {
        for (int b = 0; b < 30; b++) {
            for (int what = 0; what < 4; what++) {
                row.add((long) x.bears(b, what));
            }
        }
        row.add((long) x.breaks());
        for (int b = -1; b < 30; b++) {
            row.add((long) x.leaks(b));
        }
    }

    private static void lookAtWater(GlassPalace x, List<Long> row) {
        int[] hours = {0, 1, 2, 3, 23};
        for (int hour : hours) {
            for (int b = 0; b < 30; b++) {
                row.add((long) x.stands(b, hour));
            }
        }
    }

    private static void lookAtPeople(GlassPalace x, List<Long> row) {
        for (int b = 0; b < 30; b++) {
            row.add((long) x.people(b, 0));
        }
        for (int hour = 0; hour < 24; hour++) {
            row.add((long) x.rain(hour, 0));
        }
        for (int b = 10; b < 30; b++) {
            row.add((long) x.bay(b, 0, 0));
            row.add((long) x.bay(b, 1, 0));
        }
    }

    private static void lookAtGround(GlassPalace x, List<Long> row) {
        for (int b = 0; b < 10; b++) {
            row.add((long) x.down(b, 5));
            row.add((long) x.down(b, 4));
            for (int n = x.at(b, 3); n > 0; n--) {
                row.add((long) x.down(b, 3));
            }
            row.add((long) x.down(b, 2));
        }
        for (int b = 0; b < 10; b++) {
            row.add((long) x.down(b, 1));
            row.add((long) x.bay(b, 0, 0));
            row.add((long) x.bay(b, 1, 0));
        }
    }

    private static void lookAtLaws(GlassPalace x, List<Long> row) {
        int[] days = {0, 1, 2, 3, 4, 399};
        for (int day : days) {
            for (int word = 0; word < 6; word++) {
                row.add((long) x.why(word, day));
                row.add((long) x.force(word, day, 0));
            }
        }
        for (int b = 1; b < 30; b++) {
            row.add((long) x.force(4, TODAY, b));
        }
        for (int f = 1; f < 8; f++) {
            row.add((long) x.force(5, TODAY, f));
        }
        row.add((long) x.feed(' ', 1));
        row.add((long) x.feed('8', 1));
        row.add((long) x.law(0));
        row.add((long) x.force(1, 0, 0));
    }

    private static void lookAtPlan(GlassPalace x, List<Long> row) {
        int[] days = {0, 3, 4, 5, 7, 9, 10, 12, 14, 17, 63, 399};
        for (int day : days) {
            for (int kind = 1; kind <= 5; kind++) {
                row.add((long) x.ahead(kind, day, true));
                row.add((long) x.ahead(kind, day, false));
            }
        }
        for (int set = 0; set < 5; set++) {
            row.add((long) x.lack(set, 0, true));
            row.add((long) x.lack(set, 1, true));
            row.add((long) x.lack(set, 0, false));
            row.add((long) x.lack(set, 1, false));
        }
        row.add((long) x.best());
    }

    /** Items, and their sorts: by what becomes of a number that fits into none but a long. */
    private static void lookAtTapes(GlassPalace x, List<Long> row, int first) {
        for (int tape = first; tape < first + 3; tape++) {
            for (int i = 0; i < 60; i++) {
                row.add(x.read(tape, i));
            }
            row.add((long) x.item(tape, 0, 987654321987654321L));
            row.add(x.read(tape, 0));
        }
    }

    /** LEAST and LATEST: by when ODD pieces will have come of which each foundry has as many as a bit. */
    private static void lookAtFoundries(GlassPalace x, List<Long> row) {
        for (int f = 0; f < 8; f++) {
            row.add((long) x.order(5, f, 1 << f, 0));
        }
        int today = x.count(0);
        for (int day = today; day <= today + 61; day++) {
            row.add((long) x.ahead(5, day, true));
            row.add((long) x.ahead(5, day, false));
        }
    }

    /** Where the gangs may work, today and on the next day, and what they set then. */
    private static void lookAtGangs(GlassPalace x, List<Long> row) {
        int[][] works = {{0, 5, PANES}, {1, 2, GIRDERS}, {2, 14, COLUMNS}, {3, 5, GUTTERS}, {2, 16, COLUMNS},
            {0, 6, PANES}, {3, 6, GUTTERS}};
        for (int day = 0; day < 3; day++) {
            for (int[] work : works) {
                row.add((long) x.work(work[0], work[1], work[2]));
                row.add((long) x.pace(work[0]));
            }
            row.add((long) x.pass(1));
        }
    }
}
