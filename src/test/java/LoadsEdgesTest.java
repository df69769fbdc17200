/** Promises 20 to 26, edge by edge: people, loads, what holds, what breaks, rain, gutters, what stands and leaks. */
public final class LoadsEdgesTest {
    private static final int MIN = Integer.MIN_VALUE, MAX = Integer.MAX_VALUE;

    public static void main(String[] args) {
        peopleOfABay();
        bearsNumbers();
        bearsWhatIsThere();
        leastAndGreatestLoad();
        girderHolds();
        lawOfToday();
        columnOfGreatestLength();
        columnOfNoLength();
        columnBearsItsLeft();
        columnsOfEveryBay();
        breaksOfEveryBay();
        breaksByColumnAlone();
        rainNumbers();
        leadsNumbers();
        leadsOfEveryPair();
        newGutter();
        standsNumbers();
        waterByEights();
        waterWithoutPanes();
        gutterOfNought();
        gutterOfMost();
        waterOfTheHourAhead();
        waterGoesRound();
        waterOfBayNought();
        waterOfTheLastHour();
        leaksAboveFifty();
        leaksTogether();
        leaksNumbers();
        Due.end("LoadsEdgesTest");
    }

    /** A COLUMN of 100 less twice the LEVEL and a GIRDER in a BAY, and what it needs to the RIGHT. */
    private static void raise(GlassPalace x, int bay, int v) {
        int columns = Due.lot(x, 1, 0, 2, 100);
        x.set(columns, bay);
        if (bay % 6 < 5) {
            x.set(columns, bay + 1);
        }
        Due.is("a girder in " + bay, x.set(Due.lot(x, 2, 0, 1, v), bay), 1);
    }

    private static void glaze(GlassPalace x, int bay, int panes) {
        int lot = Due.lot(x, 3, 0, panes, 0);
        for (int n = 0; n < panes; n++) {
            Due.is("a pane in " + bay, x.set(lot, bay), 1);
        }
    }

    private static void gutter(GlassPalace x, int bay, int v) {
        Due.is("a gutter in " + bay, x.set(Due.lot(x, 4, 0, 1, v), bay), 1);
    }

    // ---- 20

    private static void peopleOfABay() {
        GlassPalace x = new GlassPalace();
        int[] none = {-1, 30, MIN, MAX};
        int[] wrong = {-1, 201, MIN, MAX};
        for (int bay : none) {
            Due.is("20 BAY " + bay, x.people(bay, 5), -1);
            Due.is("20 BAY " + bay + ", 201", x.people(bay, 201), -1);
        }
        int[] bays = {0, 29};
        for (int bay : bays) {
            for (int n : wrong) {
                Due.is("20 PEOPLE " + n, x.people(bay, n), -2);
            }
            Due.is("20 PEOPLE 200: none were there", x.people(bay, 200), 0);
            for (int n : wrong) {
                Due.is("20 PEOPLE " + n, x.people(bay, n), -2);
            }
            Due.is("20 PEOPLE 1: 200 were", x.people(bay, 1), 200);
            Due.is("20 PEOPLE 199: 1 was", x.people(bay, 199), 1);
            Due.is("20 PEOPLE 0: 199 were", x.people(bay, 0), 199);
            Due.is("20 PEOPLE 0: none were", x.people(bay, 0), 0);
        }
    }

    // ---- 21

    private static void bearsNumbers() {
        GlassPalace x = new GlassPalace();
        raise(x, 29, 999);
        raise(x, 5, 999);
        int[] none = {-1, 30, MIN, MAX};
        int[] wrong = {-1, 4, MIN, MAX};
        for (int what = 0; what < 4; what++) {
            for (int bay : none) {
                Due.is("21 BAY " + bay + ", what " + what, x.bears(bay, what), -1);
            }
            int due = what < 2 ? 0 : 1;
            Due.is("21 BAY 29, what " + what, x.bears(29, what), due);
            Due.is("21 BAY 5, what " + what, x.bears(5, what), due);
        }
        for (int what : wrong) {
            Due.is("21 what " + what, x.bears(29, what), -1);
            Due.is("21 what " + what + ", where nothing is", x.bears(0, what), -1);
        }
    }

    private static void bearsWhatIsThere() {
        GlassPalace x = new GlassPalace();
        x.people(0, 200);
        x.set(Due.lot(x, 5, 0, 1, 0), 0);
        for (int what = 0; what < 4; what++) {
            Due.is("21 nothing but an odd one, what " + what, x.bears(0, what), -5);
        }
        x.set(Due.lot(x, 6, 0, 1, 100), 0);
        int[] due = {-5, 0, -5, 1};
        for (int what = 0; what < 4; what++) {
            Due.is("21 a column without girder bears nothing, what " + what, x.bears(0, what), due[what]);
        }
        x.set(Due.lot(x, 1, 0, 1, 100), 1);
        x.set(Due.lot(x, 2, 0, 1, 600), 0);
        Due.is("21 the GIRDER is there", x.bears(0, 0), 600);
        Due.is("21 it HOLDS", x.bears(0, 2), 1);
        Due.is("21 the column bears it", x.bears(0, 1), 600);
        x.down(0, 2);
        Due.is("21 the GIRDER is taken down", x.bears(0, 0), -5);
        Due.is("21 the column bears nothing", x.bears(0, 1), 0);
    }

    private static void leastAndGreatestLoad() {
        GlassPalace x = new GlassPalace();
        raise(x, 29, 999);
        Due.is("21 no LOAD", x.bears(29, 0), 0);
        x.people(29, 1);
        Due.is("21 one of the PEOPLE", x.bears(29, 0), 3);
        glaze(x, 29, 24);
        Due.is("21 and 24 PANES", x.bears(29, 0), 51);
        x.people(29, 200);
        Palace.law(x, "load 999;snow 999", 0);
        Due.is("21 the greatest LOAD", x.bears(29, 0), 999 * 200 + 999 * 24);
        Due.is("21 the column bears it, too", x.bears(29, 1), 999 * 200 + 999 * 24);
        Palace.law(x, "load 0", 0);
        Due.is("21 load 0: snow alone", x.bears(29, 0), 999 * 24);
        Palace.law(x, "snow 0", 0);
        Due.is("21 both 0", x.bears(29, 0), 0);
        Palace.law(x, "load 1", 0);
        Due.is("21 snow 0: PEOPLE alone", x.bears(29, 0), 200);
    }

    private static void girderHolds() {
        int[] vs = {0, 1, 200, 599};
        for (int v : vs) {
            GlassPalace x = new GlassPalace();
            raise(x, 29, v);
            Palace.law(x, "load " + v + ";snow 1", 0);
            x.people(29, 1);
            Due.is("21 a LOAD of v " + v, x.bears(29, 2), 1);
            Due.is("22 a LOAD of v " + v, x.breaks(), v > 300 ? 1 << 29 : 0);
            glaze(x, 29, 1);
            Due.is("21 a LOAD of one above v " + v, x.bears(29, 2), 0);
            Due.is("22 a LOAD of one above v " + v, x.breaks(), 1 << 29);
        }
    }

    private static void lawOfToday() {
        GlassPalace x = new GlassPalace();
        raise(x, 29, 999);
        glaze(x, 29, 1);
        x.people(29, 1);
        Palace.law(x, "load 100", 1);
        Palace.law(x, "snow 50", 2);
        int[] due = {5, 102, 150, 150};
        for (int day = 0; day < 4; day++) {
            Due.is("21 THE LAW of TODAY, " + day, x.bears(29, 0), due[day]);
            x.pass(1);
        }
    }

    private static void columnOfGreatestLength() {
        GlassPalace x = new GlassPalace();
        raise(x, 29, 999);
        x.people(29, 100);
        Due.is("21 a COLUMN of 100 feet: 600 less 300", x.bears(29, 1), 300);
        Due.is("21 300 is not above 300", x.bears(29, 3), 1);
        Due.is("22 300 is not above 300", x.breaks(), 0);
        Palace.law(x, "snow 1", 0);
        glaze(x, 29, 1);
        Due.is("21 301", x.bears(29, 1), 301);
        Due.is("21 301 is above 300", x.bears(29, 3), 0);
        Due.is("22 301 is above 300", x.breaks(), 1 << 29);
        Due.is("21 its GIRDER HOLDS", x.bears(29, 2), 1);
    }

    private static void columnOfNoLength() {
        int[] lengths = {0, 1, 99};
        for (int k = 0; k < 2 * lengths.length; k++) {
            int length = lengths[k / 2];
            GlassPalace x = new GlassPalace();
            int most = 600 - 3 * length;
            Palace.law(x, "pack 100;load " + most / 3 + ";snow 1", 0);
            x.set(Due.lot(x, k % 2 == 0 ? 1 : 6, 0, 1, length), 29);
            x.set(Due.lot(x, 2, 0, 1, 999), 29);
            x.people(29, 3);
            Due.is("21 a COLUMN of " + length + " feet", x.bears(29, 1), most);
            Due.is("21 a COLUMN of " + length + " feet HOLDS it", x.bears(29, 3), 1);
            glaze(x, 29, 1);
            Due.is("21 one above", x.bears(29, 1), most + 1);
            Due.is("21 one above", x.bears(29, 3), 0);
        }
    }

    private static void columnBearsItsLeft() {
        GlassPalace x = new GlassPalace();
        int columns = Due.lot(x, 1, 0, 30, 100);
        int girders = Due.lot(x, 2, 0, 30, 999);
        for (int b = 0; b < 12; b++) {
            x.set(columns, b);
        }
        for (int b = 0; b < 12; b++) {
            x.set(girders, b);
            x.people(b, 1 << b % 6);
        }
        for (int b = 0; b < 12; b++) {
            int left = b % 6 == 0 ? 0 : 1 << b % 6 - 1;
            Due.is("21 the COLUMN in " + b + " bears its own and its left", x.bears(b, 1), 3 * ((1 << b % 6) + left));
            Due.is("21 the GIRDER in " + b + " bears its own", x.bears(b, 0), 3 << b % 6);
        }
        x.down(0, 2);
        Due.is("21 without the left GIRDER", x.bears(1, 1), 6);
        Due.is("21 the PEOPLE are there still", x.people(0, 1), 1);
        x.down(11, 2);
        Due.is("21 without its own GIRDER", x.bears(11, 1), 48);
    }

    private static void columnsOfEveryBay() {
        for (int b = 0; b < 30; b++) {
            GlassPalace x = new GlassPalace();
            int columns = Due.lot(x, 1, 0, 30, 100);
            for (int k = 0; k < 30; k++) {
                x.set(columns, k);
            }
            x.set(Due.lot(x, 2, 0, 1, 999), b);
            x.people(b, 200);
            int due = 1 << b | (b % 6 == 5 ? 0 : 1 << b + 1);
            Due.is("22 a GIRDER of 600 in " + b + " breaks its own COLUMN and that to the RIGHT", x.breaks(), due);
            for (int k = 0; k < 30; k++) {
                Due.is("21 the COLUMN in " + k, x.bears(k, 1), (due >> k & 1) * 600);
            }
        }
    }

    // ---- 22

    private static void breaksOfEveryBay() {
        GlassPalace x = new GlassPalace();
        Due.is("22 nothing stands", x.breaks(), 0);
        int columns = Due.lot(x, 1, 0, 30, 100);
        int girders = Due.lot(x, 2, 0, 30, 0);
        for (int b = 0; b < 30; b++) {
            x.set(columns, b);
        }
        for (int b = 0; b < 30; b++) {
            Due.is("a girder", x.set(girders, b), 1);
        }
        Due.is("22 nobody is there", x.breaks(), 0);
        int bits = 0;
        for (int b = 29; b >= 0; b--) {
            x.people(b, 1);
            bits |= 1 << b;
            Due.is("22 the GIRDERS down to " + b, x.breaks(), bits);
        }
        Due.is("22 all of them", x.breaks(), (1 << 30) - 1);
    }

    private static void breaksByColumnAlone() {
        GlassPalace x = new GlassPalace();
        raise(x, 4, 999);
        x.set(Due.lot(x, 2, 0, 1, 999), 5);
        x.people(4, 60);
        x.people(5, 40);
        Due.is("22 180 and 120 together", x.breaks(), 0);
        x.people(5, 41);
        Due.is("22 180 and 123 together", x.breaks(), 1 << 5);
        x.people(4, 101);
        Due.is("22 303 breaks the left COLUMN, too", x.breaks(), 3 << 4);
        x.people(5, 200);
        Due.is("22 600: the GIRDER HOLDS", x.bears(5, 2), 1);
        Due.is("22 one bit for a BAY", x.breaks(), 3 << 4);
    }

    // ---- 23

    private static void rainNumbers() {
        GlassPalace x = new GlassPalace();
        int[] none = {-1, 24, MIN, MAX};
        int[] wrong = {-1, 100, MIN, MAX};
        for (int hour : none) {
            Due.is("23 HOUR " + hour, x.rain(hour, 5), -1);
            Due.is("23 HOUR " + hour + ", RAIN 100", x.rain(hour, 100), -1);
        }
        for (int hour = 0; hour < 24; hour++) {
            for (int n : wrong) {
                Due.is("23 HOUR " + hour + ", RAIN " + n, x.rain(hour, n), -2);
            }
            Due.is("23 RAIN 99", x.rain(hour, 99), 0);
            Due.is("23 RAIN 1", x.rain(hour, 1), 99);
            Due.is("23 RAIN 0", x.rain(hour, 0), 1);
            Due.is("23 RAIN of its own HOUR", x.rain(hour, hour), 0);
        }
        for (int hour = 0; hour < 24; hour++) {
            Due.is("23 RAIN of its own HOUR", x.rain(hour, 0), hour);
        }
    }

    // ---- 24

    private static void leadsNumbers() {
        GlassPalace x = new GlassPalace();
        raise(x, 29, 999);
        gutter(x, 29, 5);
        int[] none = {-1, 30, MIN, MAX};
        int[] noOther = {-2, 30, MIN, MAX};
        for (int bay : none) {
            Due.is("24 BAY " + bay, x.leads(bay, -1), -1);
            Due.is("24 BAY " + bay + " to 29", x.leads(bay, 29), -1);
        }
        for (int to : noOther) {
            Due.is("24 to " + to, x.leads(29, to), -1);
            Due.is("24 to " + to + ", where no gutter is", x.leads(0, to), -1);
        }
        Due.is("24 to 28", x.leads(29, 28), 1);
        Due.is("24 to 23", x.leads(29, 23), 1);
        Due.is("24 into its COLUMN", x.leads(29, -1), 1);
        Due.is("24 to itself", x.leads(29, 29), -2);
        Due.is("24 to 0", x.leads(29, 0), -2);
        Due.is("24 over its corner", x.leads(29, 22), -2);
    }

    private static void leadsOfEveryPair() {
        for (int b = 0; b < 30; b++) {
            GlassPalace x = new GlassPalace();
            for (int to = 0; to < 30; to++) {
                int columns = Math.abs(b % 6 - to % 6);
                int rows = Math.abs(b / 6 - to / 6);
                boolean beside = columns == 1 && rows == 0 || columns == 0 && rows == 1;
                Due.is("24 without gutter " + b + " to " + to, x.leads(b, to), beside ? -3 : -2);
            }
            raise(x, b, 9);
            Due.is("24 without gutter " + b + " into its COLUMN", x.leads(b, -1), -3);
            gutter(x, b, 9);
            for (int to = 0; to < 30; to++) {
                int columns = Math.abs(b % 6 - to % 6);
                int rows = Math.abs(b / 6 - to / 6);
                boolean beside = columns == 1 && rows == 0 || columns == 0 && rows == 1;
                Due.is("24 " + b + " to " + to, x.leads(b, to), beside ? 1 : -2);
            }
            x.down(b, 4);
            Due.is("24 the gutter of " + b + " is taken down", x.leads(b, -1), -3);
        }
    }

    private static void newGutter() {
        GlassPalace x = new GlassPalace();
        raise(x, 5, 999);
        raise(x, 11, 999);
        glaze(x, 5, 8);
        glaze(x, 11, 8);
        gutter(x, 5, 9);
        x.rain(0, 7);
        Due.is("24 at first into its COLUMN", x.stands(11, 1), 7);
        x.leads(5, 11);
        Due.is("24 to 11", x.stands(11, 1), 14);
        x.down(5, 4);
        gutter(x, 5, 9);
        Due.is("24 a new GUTTER leads into the COLUMN", x.stands(11, 1), 7);
        x.leads(5, 11);
        x.leads(5, -1);
        Due.is("24 told to lead into its COLUMN again", x.stands(11, 1), 7);
        x.leads(5, 11);
        Due.is("24 BAD: it leads as before", x.leads(5, 12), -2);
        Due.is("24 BAD: it leads as before", x.stands(11, 1), 14);
    }

    // ---- 25

    private static void standsNumbers() {
        GlassPalace x = new GlassPalace();
        raise(x, 29, 999);
        glaze(x, 29, 8);
        x.rain(0, 3);
        x.rain(23, 4);
        int[] none = {-1, 30, MIN, MAX};
        int[] noHour = {-1, 24, MIN, MAX};
        for (int bay : none) {
            Due.is("25 BAY " + bay, x.stands(bay, 0), -1);
        }
        for (int hour : noHour) {
            Due.is("25 HOUR " + hour, x.stands(29, hour), -1);
            Due.is("25 HOUR " + hour, x.stands(30, hour), -1);
        }
        Due.is("25 behind HOUR 0", x.stands(29, 0), 3);
        Due.is("25 behind HOUR 22", x.stands(29, 22), 3);
        Due.is("25 behind HOUR 23", x.stands(29, 23), 7);
        Due.is("25 behind HOUR 0, asked again", x.stands(29, 0), 3);
        Due.is("25 BAY 0", x.stands(0, 23), 0);
    }

    private static void waterByEights() {
        int[][] due = {{1, 7, 0}, {1, 8, 1}, {7, 1, 0}, {8, 1, 1}, {3, 5, 1}, {3, 6, 2}, {24, 99, 297}, {23, 99, 284},
            {1, 99, 12}, {24, 0, 0}, {2, 11, 2}, {2, 12, 3}};
        for (int[] d : due) {
            GlassPalace x = new GlassPalace();
            raise(x, 29, 999);
            glaze(x, 29, d[0]);
            x.rain(0, d[1]);
            x.rain(1, d[1]);
            Due.is("25 " + d[1] + " times " + d[0] + " by 8, cut", x.stands(29, 0), d[2]);
            Due.is("25 cut in each HOUR", x.stands(29, 1), 2 * d[2]);
        }
    }

    private static void waterWithoutPanes() {
        GlassPalace x = new GlassPalace();
        raise(x, 4, 999);
        x.set(1, 5);
        gutter(x, 4, 99);
        for (int hour = 0; hour < 24; hour++) {
            x.rain(hour, 99);
        }
        Due.is("25 no PANES: no water", x.stands(4, 23), 0);
        Due.is("26 no PANES: no water", x.leaks(4), 0);
        glaze(x, 4, 8);
        x.leads(4, 5);
        Due.is("25 it comes where no PANES are: gone", x.stands(5, 23), 0);
        Due.is("25 it comes where no PANES are: gone", x.stands(4, 23), 0);
        x.leads(4, 3);
        Due.is("25 it comes where nothing is at all: gone", x.stands(3, 23), 0);
        Due.is("26 none leaks", x.leaks(-1), 0);
    }

    private static void gutterOfNought() {
        GlassPalace x = new GlassPalace();
        raise(x, 5, 999);
        raise(x, 11, 999);
        glaze(x, 5, 8);
        glaze(x, 11, 1);
        gutter(x, 5, 0);
        x.leads(5, 11);
        x.rain(0, 7);
        Due.is("25 v 0: all of it stands", x.stands(5, 23), 7);
        Due.is("25 v 0: none comes", x.stands(11, 23), 0);
    }

    private static void gutterOfMost() {
        int[][] due = {{6, 1}, {7, 0}, {8, 0}, {999, 0}};
        for (int[] d : due) {
            GlassPalace x = new GlassPalace();
            raise(x, 5, 999);
            raise(x, 11, 999);
            glaze(x, 5, 8);
            glaze(x, 11, 1);
            gutter(x, 5, d[0]);
            x.leads(5, 11);
            x.rain(0, 7);
            Due.is("25 7 stand, v " + d[0], x.stands(5, 0), d[1]);
            Due.is("25 it comes in the next HOUR", x.stands(11, 0), 0);
            Due.is("25 what was taken comes", x.stands(11, 1), 7 - d[1]);
            Due.is("25 what was left comes behind it", x.stands(11, 2), 7);
            Due.is("25 nothing is left", x.stands(5, 1), 0);
            Due.is("25 nothing more comes", x.stands(11, 23), 7);
        }
    }

    /** A greater and a lesser BAY give and take alike: what comes was taken in the HOUR ahead. */
    private static void waterOfTheHourAhead() {
        int[][] ways = {{5, 11}, {11, 5}, {5, 4}, {4, 5}, {11, 17}, {17, 11}, {10, 4}, {4, 10}};
        for (int[] way : ways) {
            GlassPalace x = new GlassPalace();
            raise(x, way[0], 999);
            raise(x, way[1], 999);
            glaze(x, way[0], 8);
            glaze(x, way[1], 1);
            gutter(x, way[0], 4);
            Due.is("leads", x.leads(way[0], way[1]), 1);
            x.rain(3, 6);
            int[] from = {0, 0, 0, 2, 0, 0};
            int[] to = {0, 0, 0, 0, 4, 6};
            for (int hour = 0; hour < 6; hour++) {
                Due.is("25 from " + way[0] + ", HOUR " + hour, x.stands(way[0], hour), from[hour]);
                Due.is("25 to " + way[1] + ", HOUR " + hour, x.stands(way[1], hour), to[hour]);
            }
        }
    }

    private static void waterGoesRound() {
        GlassPalace x = new GlassPalace();
        raise(x, 5, 999);
        raise(x, 11, 999);
        raise(x, 17, 999);
        glaze(x, 5, 8);
        glaze(x, 11, 1);
        glaze(x, 17, 8);
        gutter(x, 5, 3);
        gutter(x, 11, 2);
        gutter(x, 17, 1);
        x.leads(5, 11);
        x.leads(11, 5);
        x.leads(17, 11);
        x.rain(0, 5);
        // From HOUR 2 on two go round between 5 and 11, and 17 gives one more, till it has none.
        int[] due5 = {2, 0, 0, 0, 0, 0, 0};
        int[] due11 = {0, 2, 3, 4, 5, 6, 6};
        int[] due17 = {4, 3, 2, 1, 0, 0, 0};
        for (int hour = 0; hour < 7; hour++) {
            Due.is("25 round about, BAY 5, HOUR " + hour, x.stands(5, hour), due5[hour]);
            Due.is("25 round about, BAY 11, HOUR " + hour, x.stands(11, hour), due11[hour]);
            Due.is("25 round about, BAY 17, HOUR " + hour, x.stands(17, hour), due17[hour]);
        }
        Due.is("25 round about, HOUR 23", x.stands(11, 23), 6);
    }

    /** BAY 0 has RAIN, gives and takes as every other one. */
    private static void waterOfBayNought() {
        GlassPalace x = new GlassPalace();
        raise(x, 0, 999);
        x.set(Due.lot(x, 1, 0, 1, 100), 2);
        x.set(Due.lot(x, 2, 0, 1, 999), 1);
        glaze(x, 0, 8);
        glaze(x, 1, 8);
        gutter(x, 1, 10);
        x.rain(0, 60);
        Due.is("25 RAIN in BAY 0", x.stands(0, 0), 60);
        Due.is("25 a new GUTTER leads into its COLUMN, not to BAY 0", x.stands(0, 1), 60);
        Due.is("26 LEAKS of BAY 0", x.leaks(0), 240);
        Due.is("26 LEAKS of all: BAY 0 alone", x.leaks(-1), 240);
        Due.is("24 to BAY 0", x.leads(1, 0), 1);
        Due.is("25 it comes to BAY 0", x.stands(0, 1), 70);
        Due.is("25 asked again: from no water on", x.stands(0, 0), 60);
        Due.is("25 all of it comes to BAY 0", x.stands(0, 23), 120);
        gutter(x, 0, 5);
        x.leads(0, 6);
        Due.is("25 BAY 0 gives to BAY 6, without PANES: gone", x.stands(0, 0), 55);
        Due.is("25 gone", x.stands(6, 1), 0);
        x.leads(0, 1);
        Due.is("25 BAY 0 gives to BAY 1", x.stands(1, 1), 45);
    }

    private static void waterOfTheLastHour() {
        GlassPalace x = new GlassPalace();
        raise(x, 5, 999);
        raise(x, 11, 999);
        glaze(x, 5, 8);
        glaze(x, 11, 8);
        gutter(x, 5, 99);
        x.leads(5, 11);
        x.rain(23, 60);
        Due.is("25 RAIN of HOUR 23 is not there behind 22", x.stands(11, 22), 0);
        Due.is("25 RAIN of HOUR 23", x.stands(11, 23), 60);
        Due.is("25 what is taken in HOUR 23 comes to none", x.stands(5, 23), 0);
        Due.is("26 HOUR 23 counts", x.leaks(11), 10);
        Due.is("26 of all", x.leaks(-1), 10);
    }

    // ---- 26

    private static void leaksAboveFifty() {
        int[][] due = {{49, 0}, {50, 0}, {51, 24}, {52, 48}};
        for (int[] d : due) {
            GlassPalace x = new GlassPalace();
            raise(x, 29, 999);
            glaze(x, 29, 8);
            x.rain(0, d[0]);
            Due.is("26 " + d[0] + " stand behind 24 HOURS", x.leaks(29), d[1]);
            gutter(x, 29, d[0] - 50 > 0 ? d[0] - 50 : 0);
            Due.is("26 what the GUTTER takes does not leak", x.leaks(29), 0);
        }
        GlassPalace x = new GlassPalace();
        raise(x, 29, 999);
        glaze(x, 29, 24);
        for (int hour = 0; hour < 24; hour++) {
            x.rain(hour, 99);
        }
        int all = 0;
        for (int hour = 1; hour <= 24; hour++) {
            all += 297 * hour - 50;
        }
        Due.is("26 the most RAIN on the most PANES", x.leaks(29), all);
        Due.is("25 the most RAIN on the most PANES", x.stands(29, 23), 297 * 24);
    }

    private static void leaksTogether() {
        GlassPalace x = new GlassPalace();
        int[] bays = {5, 29, 11};
        for (int bay : bays) {
            raise(x, bay, 999);
            glaze(x, bay, 8);
        }
        gutter(x, 5, 10);
        x.rain(22, 60);
        Due.is("26 one that drains 10", x.leaks(5), 0);
        Due.is("26 BAY 29", x.leaks(29), 20);
        Due.is("26 of all", x.leaks(-1), 40);
        x.rain(23, 40);
        Due.is("26 50 and 40, less 10", x.leaks(5), 30);
        Due.is("26 of all", x.leaks(-1), 30 + 2 * 60);
    }

    private static void leaksNumbers() {
        GlassPalace x = new GlassPalace();
        int[] none = {-2, 30, MIN, MAX};
        for (int bay : none) {
            Due.is("26 BAY " + bay, x.leaks(bay), -5);
        }
        Due.is("26 of all", x.leaks(-1), 0);
        Due.is("26 BAY 0", x.leaks(0), 0);
        Due.is("26 BAY 29", x.leaks(29), 0);
    }
}
