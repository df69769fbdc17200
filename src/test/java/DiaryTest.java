/** Promises 2 to 38, and 43, together: palaces in use against a diary that reckons each answer anew. */
public final class DiaryTest {
    private static final String[] LAWS = {"pack 4", "pack 2;pay 3", "pay 7;load 2", "load 5;snow 9", "snow 1;load 0",
        "cut t<31&l=0", "cut !(c=2|r=1)", "cut d>2|t=6", "bar f=2", "bar d=1&f>2;pay 999", "bar !(d<5|f<6)",
        "pack 1;pack 6;cut f=0&l<2", "bar f=1;bar f=0&(d=1|d=3)|t=0&f=4", "cut t>0&!t>20"};
    /** Of each KIND: v of its LOTS. */
    private static final int[][] NUMBERS = {{9}, {100, 100, 98, 97}, {40, 120, 300, 999}, {0}, {0, 5, 20, 60}, {7},
        {100, 96}};

    private final Due.Dice dice;
    private final String run;
    private final GlassPalace x = new GlassPalace();
    private final Diary diary = new Diary();
    private int calls;

    private DiaryTest(int seed) {
        dice = new Due.Dice(seed);
        run = "run " + seed + ", call ";
    }

    public static void main(String[] args) {
        for (int seed = 0; seed < 500; seed++) {
            new DiaryTest(seed).use();
        }
        Due.end("DiaryTest");
    }

    private void is(String call, int got, int due) {
        Due.is(run + calls + ": " + call, got, due);
        calls++;
    }

    private void use() {
        for (int k = 0; k < 6; k++) {
            ground();
        }
        for (int kind = 0; kind < 7; kind++) {
            order(kind);
            order(kind);
        }
        for (int lot = 0; lot < 14; lot++) {
            is("come(" + lot + ", 0)", x.come(lot, 0), diary.come(lot, 0));
        }
        for (int place = 1; place <= 4; place++) {
            gang(place);
        }
        frame();
        while (calls < 460) {
            switch (dice.roll(8)) {
                case 0: site(); break;
                case 1: lots(); break;
                case 2: case 3: pieces(); break;
                case 4: loads(); break;
                case 5: gangs(); break;
                case 6: plan(); break;
                default: others();
            }
        }
        for (int what = 0; what < 9; what++) {
            is("count(" + what + ")", x.count(what), diary.count(what));
        }
    }

    /** Columns and girders in two rows, as far as they fit. */
    private void frame() {
        for (int b = 0; b < 12; b++) {
            set(2 + dice.roll(2), b);
        }
        for (int b = 0; b < 12; b++) {
            set(dice.from(4, 5), b);
        }
        for (int k = 0; k < 14; k++) {
            set(dice.from(6, 9), dice.roll(12));
        }
    }

    private int lot() {
        return dice.roll(diary.lots());
    }

    /** One that is mostly among those of the two rows. */
    private int bay() {
        return dice.roll(5) == 0 ? dice.roll(30) : dice.roll(12);
    }

    private int day() {
        return dice.roll(6) == 0 ? dice.roll(400) : Math.min(399, Math.max(0, diary.today + dice.from(-8, 20)));
    }

    /** One with a GUTTER, if a few tries find one. */
    private int gutterBay() {
        int b = dice.roll(12);
        for (int tries = 0; tries < 8 && diary.at(b, 4) == -5; tries++) {
            b = dice.roll(12);
        }
        return b;
    }

    private void ground() {
        int b = bay();
        int what = dice.roll(2);
        int n = dice.roll(what == 0 ? 3 : 61);
        is("bay(" + b + ", " + what + ", " + n + ")", x.bay(b, what, n), diary.bay(b, what, n));
    }

    private void order(int kind) {
        int f = dice.roll(8);
        int pieces = kind == 3 ? dice.from(20, 90) : dice.from(1, 12);
        int v = NUMBERS[kind][dice.roll(NUMBERS[kind].length)];
        is("order(" + kind + ", " + f + ", " + pieces + ", " + v + ")", x.order(kind, f, pieces, v),
            diary.order(kind, f, pieces, v));
    }

    private void site() {
        int f = dice.roll(8);
        int least = dice.from(1, 20);
        int latest = dice.from(least, 40);
        switch (dice.roll(9)) {
            case 0:
            case 1:
            case 2:
                int n = dice.roll(20) == 0 ? dice.from(1, 50) : dice.from(1, 3);
                is("pass(" + n + ")", x.pass(n), diary.pass(n));
                break;
            case 3:
                is("foundry(" + f + ", " + least + ", " + latest + ")", x.foundry(f, least, latest),
                    diary.foundry(f, least, latest));
                break;
            case 4:
                ground();
                break;
            case 5:
                law(LAWS[dice.roll(LAWS.length)], day());
                break;
            case 6:
                for (int b = dice.roll(3); b < 30; b += 3) {
                    is("cut(" + b + ")", x.cut(b), diary.cut(b));
                }
                break;
            default:
                force(dice.roll(6), day());
        }
    }

    private void law(String text, int day) {
        if (diary.count(2) == 10) {
            return;
        }
        for (int k = 0; k < text.length(); k++) {
            is("feed", x.feed(text.charAt(k), 1), k + 1);
        }
        is("law(" + day + ") of " + text, x.law(day), diary.law(text, day));
    }

    private void force(int word, int day) {
        int which = dice.roll(word == 5 ? 8 : 30);
        is("why(" + word + ", " + day + ")", x.why(word, day), diary.why(word, day));
        is("force(" + word + ", " + day + ", " + which + ")", x.force(word, day, which), diary.force(word, day, which));
    }

    private void lots() {
        int lot = lot();
        switch (dice.roll(8)) {
            case 0:
                order(dice.roll(7));
                break;
            case 1:
            case 2:
                int last = dice.roll(2) == 0 ? diary.lots() - 1 : lot;
                int day = Math.max(0, diary.today - dice.roll(4));
                is("come(" + last + ", " + day + ")", x.come(last, day), diary.come(last, day));
                break;
            case 3:
                int load = dice.roll(3) == 0 ? dice.roll(400) : dice.roll(102);
                is("tried(" + lot + ", " + load + ")", x.tried(lot, load), diary.tried(lot, load));
                break;
            case 4:
                int n = dice.from(1, 6);
                is("sell(" + lot + ", " + n + ")", x.sell(lot, n), diary.sell(lot, n));
                break;
            case 5:
                boolean there = dice.roll(2) == 0;
                int by = day();
                is("known(" + by + ", " + there + ")", x.known(by, there), diary.known(by, there));
                break;
            default:
                int what = dice.roll(9);
                is("of(" + lot + ", " + what + ")", x.of(lot, what), diary.of(lot, what));
        }
    }

    private void set(int lot, int b) {
        is("fit(" + lot + ", " + b + ")", x.fit(lot, b), diary.fit(lot, b));
        is("set(" + lot + ", " + b + ")", x.set(lot, b), diary.set(lot, b));
    }

    private void pieces() {
        int b = bay();
        int place = dice.from(1, 5);
        switch (dice.roll(9)) {
            case 0:
            case 1:
                is("down(" + b + ", " + place + ")", x.down(b, place), diary.down(b, place));
                break;
            case 2:
                is("at(" + b + ", " + place + ")", x.at(b, place), diary.at(b, place));
                is("wants(" + b + ")", x.wants(b), diary.wants(b));
                break;
            case 3:
                int i = dice.roll(20) - 1;
                is("unbuild(" + i + ")", x.unbuild(i), diary.unbuild(i));
                break;
            default:
                set(lot(), b);
        }
    }

    private void loads() {
        int b = bay();
        int hour = dice.roll(24);
        switch (dice.roll(8)) {
            case 0:
                int n = dice.roll(201);
                is("people(" + b + ", " + n + ")", x.people(b, n), diary.people(b, n));
                break;
            case 1:
                for (int what = 0; what < 4; what++) {
                    is("bears(" + b + ", " + what + ")", x.bears(b, what), diary.bears(b, what));
                }
                break;
            case 2:
                is("breaks()", x.breaks(), diary.breaks());
                break;
            case 3:
                for (; hour < 24; hour += 2) {
                    int rain = dice.roll(100);
                    is("rain(" + hour + ", " + rain + ")", x.rain(hour, rain), diary.rain(hour, rain));
                }
                break;
            case 4:
            case 5:
                int roof = gutterBay();
                int[] ways = {-1, roof + 1, roof - 1, roof + 6, roof - 6, dice.roll(30)};
                int to = ways[dice.roll(6)];
                if (to >= -1 && to < 30) {
                    is("leads(" + roof + ", " + to + ")", x.leads(roof, to), diary.leads(roof, to));
                }
                break;
            case 6:
                int wet = gutterBay();
                is("stands(" + wet + ", " + hour + ")", x.stands(wet, hour), diary.stands(wet, hour));
                break;
            default:
                int leaky = dice.roll(3) == 0 ? -1 : gutterBay();
                is("leaks(" + leaky + ")", x.leaks(leaky), diary.leaks(leaky));
        }
    }

    private void gang(int place) {
        int pace = dice.from(1, 20);
        is("gang(" + place + ", " + pace + ")", x.gang(place, pace), diary.gang(place, pace));
    }

    private void gangs() {
        int gang = dice.roll(diary.gangs());
        if (dice.roll(12) == 0) {
            gang(dice.from(1, 4));
        }
        for (int times = dice.roll(4); times > 0; times--) {
            int b = bay();
            int lot = gang < 4 && dice.roll(3) > 0 ? 2 * (gang + 1) + dice.roll(2) : lot();
            is("work(" + gang + ", " + b + ", " + lot + ")", x.work(gang, b, lot), diary.work(gang, b, lot));
            gang = dice.roll(diary.gangs());
        }
        is("pace(" + gang + ")", x.pace(gang), diary.pace(gang));
    }

    private void plan() {
        int kind = dice.from(1, 5);
        int n = dice.from(1, 30);
        int day = day();
        boolean latest = dice.roll(2) == 0;
        switch (dice.roll(6)) {
            case 0:
                is("want(" + kind + ", " + n + ", " + day + ")", x.want(kind, n, day), diary.want(kind, n, day));
                break;
            case 1:
                int coin = dice.roll(6);
                is("more(" + kind + ", " + n + ", " + day + ", " + coin + ")", x.more(kind, n, day, coin),
                    diary.more(kind, n, day, coin));
                break;
            case 2:
            case 3:
                is("ahead(" + kind + ", " + day + ", " + latest + ")", x.ahead(kind, day, latest),
                    diary.ahead(kind, day, latest));
                break;
            default:
                int set = dice.roll(1 << diary.additions());
                int what = dice.roll(2);
                is("lack(" + set + ", " + what + ", " + latest + ")", x.lack(set, what, latest),
                    diary.lack(set, what, latest));
        }
        if (dice.roll(12) == 0) {
            is("best()", x.best(), diary.best());
        }
    }

    private void others() {
        int nation = dice.roll(8);
        if (dice.roll(2) == 0) {
            int n = dice.from(1, 6);
            is("let(" + nation + ", " + n + ")", x.let(nation, n), diary.let(nation, n));
        }
        int what = dice.roll(3);
        is("nation(" + nation + ", " + what + ")", x.nation(nation, what), diary.nation(nation, what));
        int counted = dice.roll(9);
        is("count(" + counted + ")", x.count(counted), diary.count(counted));
    }
}
