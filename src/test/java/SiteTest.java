/** Promises 1 to 9: a new object, days, ground, foundries, lots. */
public final class SiteTest {
    public static void main(String[] args) {
        newObject();
        pass();
        bay();
        foundry();
        order();
        come();
        of();
        tried();
        sell();
        Due.end("SiteTest");
    }

    private static void newObject() {
        GlassPalace x = new GlassPalace();
        for (int what = 0; what <= 9; what++) {
            Due.is("1 new: count(" + what + ")", x.count(what), 0);
        }
        for (int b = 0; b < 30; b++) {
            Due.is("1 new: wants(" + b + ")", x.wants(b), 100);
            Due.is("1 new: bay(" + b + ", 1, 0)", x.bay(b, 1, 0), 0);
            Due.is("1 new: people(" + b + ", 0)", x.people(b, 0), 0);
        }
        for (int h = 0; h < 24; h++) {
            Due.is("1 new: rain(" + h + ", 0)", x.rain(h, 0), 0);
        }
        for (int n = 0; n < 8; n++) {
            Due.is("1 new: nation(" + n + ", 0)", x.nation(n, 0), -5);
            Due.is("1 new: nation(" + n + ", 1)", x.nation(n, 1), 0);
            Due.is("1 new: nation(" + n + ", 2)", x.nation(n, 2), 0);
        }
        for (int t = 0; t < 6; t++) {
            Due.is("1 new: item(" + t + ", 0, 1)", x.item(t, 0, 1), -11);
        }
        Due.is("1 new: of(0, 0)", x.of(0, 0), -1);
        Due.is("1 new: unbuild(-1)", x.unbuild(-1), 0);
        Due.is("1 NONE", GlassPalace.NONE, -1);
        Due.is("1 BAD", GlassPalace.BAD, -2);
        Due.is("1 STATE", GlassPalace.STATE, -3);
        Due.is("1 FULL", GlassPalace.FULL, -4);
        Due.is("1 NO", GlassPalace.NO, Long.MIN_VALUE);
    }

    private static void pass() {
        GlassPalace x = new GlassPalace();
        Due.is("2 pass(0)", x.pass(0), -2);
        Due.is("2 pass(-1)", x.pass(-1), -2);
        Due.is("2 pass(51)", x.pass(51), -2);
        Due.is("2 pass(MAX)", x.pass(Integer.MAX_VALUE), -2);
        Due.is("2 pass(MIN)", x.pass(Integer.MIN_VALUE), -2);
        Due.is("2 count(0) behind refusals", x.count(0), 0);
        Due.is("2 pass(1)", x.pass(1), 1);
        for (int k = 1; k <= 7; k++) {
            Due.is("2 pass(50)", x.pass(50), 1 + 50 * k);
        }
        Due.is("2 pass(49) beyond 399", x.pass(49), -2);
        Due.is("2 pass(48) to 399", x.pass(48), 399);
        Due.is("2 pass(1) beyond 399", x.pass(1), -2);
        Due.is("2 count(0)", x.count(0), 399);
    }

    private static void bay() {
        GlassPalace x = new GlassPalace();
        Due.is("3 bay(-1, 0, 0)", x.bay(-1, 0, 0), -1);
        Due.is("3 bay(30, 1, 0)", x.bay(30, 1, 0), -1);
        Due.is("3 bay(0, -1, 0)", x.bay(0, -1, 0), -1);
        Due.is("3 bay(0, 2, -9): what ahead of n", x.bay(0, 2, -9), -1);
        Due.is("3 bay(0, 0, -1)", x.bay(0, 0, -1), -2);
        Due.is("3 bay(0, 0, 21)", x.bay(0, 0, 21), -2);
        Due.is("3 bay(0, 1, -1)", x.bay(0, 1, -1), -2);
        Due.is("3 bay(0, 1, 61)", x.bay(0, 1, 61), -2);
        Due.is("3 bay(0, 0, 20)", x.bay(0, 0, 20), 0);
        Due.is("3 bay(0, 1, 60)", x.bay(0, 1, 60), 0);
        Due.is("3 bay(29, 1, 21)", x.bay(29, 1, 21), 0);
        Due.is("3 bay(0, 0, 3)", x.bay(0, 0, 3), 20);
        Due.is("3 bay(0, 1, 0)", x.bay(0, 1, 0), 60);
        Due.is("3 bay(29, 1, 0)", x.bay(29, 1, 0), 21);
        int odd = Due.lot(x, 5, 0, 1, 0);
        Due.is("3 set(odd, 0)", x.set(odd, 0), 1);
        Due.is("3 bay(0, 0, 0) with an ODD piece", x.bay(0, 0, 0), -3);
        Due.is("3 bay(0, 1, 0) with an ODD piece", x.bay(0, 1, 0), -3);
        Due.is("3 bay(0, 1, 61): n ahead of STATE", x.bay(0, 1, 61), -2);
        Due.is("3 bay(1, 0, 1): another one", x.bay(1, 0, 1), 0);
        Due.is("3 down(0, 5)", x.down(0, 5), odd);
        Due.is("3 bay(0, 0, 0) bare again", x.bay(0, 0, 0), 3);
    }

    private static void foundry() {
        GlassPalace x = new GlassPalace();
        Due.is("4 foundry(-1, 1, 1)", x.foundry(-1, 1, 1), -1);
        Due.is("4 foundry(8, 0, 0)", x.foundry(8, 0, 0), -1);
        Due.is("4 foundry(0, 0, 1)", x.foundry(0, 0, 1), -2);
        Due.is("4 foundry(0, 1, 61)", x.foundry(0, 1, 61), -2);
        Due.is("4 foundry(0, 2, 1)", x.foundry(0, 2, 1), -2);
        Due.is("4 foundry(0, 61, 61)", x.foundry(0, 61, 61), -2);
        x.order(1, 7, 3, 100);
        x.order(1, 6, 5, 100);
        Due.is("4 ahead as at first: least", x.ahead(1, 6, false), 0);
        Due.is("4 ahead as at first: least", x.ahead(1, 7, false), 8);
        Due.is("4 ahead as at first: latest", x.ahead(1, 13, true), 0);
        Due.is("4 ahead as at first: latest", x.ahead(1, 14, true), 8);
        Due.is("4 foundry(7, 1, 60)", x.foundry(7, 1, 60), 1);
        Due.is("4 ahead least 1", x.ahead(1, 1, false), 3);
        Due.is("4 ahead latest 60", x.ahead(1, 59, true), 5);
        Due.is("4 ahead latest 60", x.ahead(1, 60, true), 8);
        Due.is("4 foundry(7, 60, 60)", x.foundry(7, 60, 60), 1);
        Due.is("4 foundry(7, 1, 1)", x.foundry(7, 1, 1), 1);
        Due.is("4 ahead latest 1", x.ahead(1, 1, true), 3);
    }

    private static void order() {
        GlassPalace x = new GlassPalace();
        Due.is("5 order(-1, 0, 1, 0)", x.order(-1, 0, 1, 0), -1);
        Due.is("5 order(7, 0, 1, 0)", x.order(7, 0, 1, 0), -1);
        Due.is("5 order(0, -1, 1, 0)", x.order(0, -1, 1, 0), -1);
        Due.is("5 order(0, 8, 0, 0): NONE ahead of BAD", x.order(0, 8, 0, 0), -1);
        Due.is("5 order(0, 0, 0, 0)", x.order(0, 0, 0, 0), -2);
        Due.is("5 order(0, 0, 1000, 0)", x.order(0, 0, 1000, 0), -2);
        Due.is("5 order(0, 0, 1, -1)", x.order(0, 0, 1, -1), -2);
        Due.is("5 order(0, 0, 1, 1000)", x.order(0, 0, 1, 1000), -2);
        Due.is("5 order(6, 7, 999, 999)", x.order(6, 7, 999, 999), 0);
        Due.is("5 order(0, 0, 1, 0)", x.order(0, 0, 1, 0), 1);
        for (int k = 2; k < 60; k++) {
            Due.is("5 order " + k, x.order(k % 7, k % 8, k, k), k);
        }
        Due.is("5 order 61st", x.order(0, 0, 1, 0), -4);
        Due.is("5 order 61st: BAD ahead of FULL", x.order(0, 0, 0, 0), -2);
        Due.is("5 order 61st: NONE ahead of FULL", x.order(7, 0, 1, 0), -1);
        Due.is("5 count(1)", x.count(1), 60);
        Due.is("5 of(59, 2)", x.of(59, 2), 59);
        Due.is("5 of(60, 2)", x.of(60, 2), -1);
    }

    private static void come() {
        GlassPalace x = new GlassPalace();
        x.pass(5);
        x.order(1, 0, 2, 100);
        x.order(1, 0, 2, 100);
        x.pass(3);
        Due.is("6 come(-1, 5)", x.come(-1, 5), -1);
        Due.is("6 come(2, 99): NONE ahead of BAD", x.come(2, 99), -1);
        Due.is("6 come(60, 5)", x.come(60, 5), -1);
        Due.is("6 come(0, 4) ahead of its order", x.come(0, 4), -2);
        Due.is("6 come(0, 9) behind TODAY", x.come(0, 9), -2);
        Due.is("6 of(0, 5)", x.of(0, 5), -5);
        Due.is("6 of(0, 6)", x.of(0, 6), 0);
        Due.is("6 come(0, 5)", x.come(0, 5), 1);
        Due.is("6 come(1, 8)", x.come(1, 8), 1);
        Due.is("6 of(0, 5)", x.of(0, 5), 5);
        Due.is("6 of(1, 5)", x.of(1, 5), 8);
        Due.is("6 of(0, 6)", x.of(0, 6), 2);
        Due.is("6 come(0, 8) again", x.come(0, 8), -3);
        Due.is("6 come(0, 9) again: BAD ahead of STATE", x.come(0, 9), -2);
        Due.is("6 of(0, 5) as it was", x.of(0, 5), 5);
    }

    private static void of() {
        GlassPalace x = new GlassPalace();
        x.pass(9);
        x.order(2, 3, 17, 250);
        int[] due = {2, 3, 17, 250, 9, -5, 0, 0, 170};
        for (int what = 0; what < due.length; what++) {
            Due.is("7 of(0, " + what + ")", x.of(0, what), due[what]);
        }
        Due.is("7 of(0, -1)", x.of(0, -1), -1);
        Due.is("7 of(0, 9)", x.of(0, 9), -1);
        Due.is("7 of(-1, 0)", x.of(-1, 0), -1);
        Due.is("7 of(1, 0)", x.of(1, 0), -1);
        Due.is("7 pay law from 9", Due.law(x, "pay 3", 9), 0);
        Due.is("7 paid by the law as it stands now", x.of(0, 8), 51);
        Due.is("7 pay law from 10", Due.law(x, "pay 4", 10), 1);
        Due.is("7 paid by the law of its day", x.of(0, 8), 51);
        x.come(0, 9);
        x.sell(0, 7);
        Due.is("7 in stock", x.of(0, 6), 10);
        Due.is("7 paid for each of its pieces, sold too", x.of(0, 8), 51);
        Due.is("7 bar law", Due.law(x, "bar f=3&d=2", 0), 2);
        Due.is("7 barred on day 9 (d 2)", x.of(0, 7), 1);
        x.pass(1);
        Due.is("7 not barred on day 10 (d 3)", x.of(0, 7), 0);
    }

    private static void tried() {
        GlassPalace x = new GlassPalace();
        int girders = Due.lot(x, 2, 1, 3, 250);
        int panes = Due.lot(x, 3, 1, 2, 999);
        int same = Due.lot(x, 3, 1, 2, 0);
        int columns = Due.lot(x, 1, 1, 2, 100);
        int wrong = Due.lot(x, 6, 1, 2, 100);
        int elsewhere = Due.lot(x, 3, 2, 2, 0);
        x.order(3, 1, 5, 0);
        Due.is("8 tried(-1, 0)", x.tried(-1, 0), -1);
        Due.is("8 tried(7, 9999): NONE ahead of BAD", x.tried(7, 9999), -1);
        Due.is("8 tried(0, -1)", x.tried(girders, -1), -2);
        Due.is("8 tried(0, 2001)", x.tried(girders, 2001), -2);
        Due.is("8 tried(6, 5): it has not come", x.tried(6, 5), -3);
        Due.is("8 tried(6, 2001): BAD ahead of STATE", x.tried(6, 2001), -2);
        Due.is("8 girders, 250", x.tried(girders, 250), 1);
        Due.is("8 girders, 0", x.tried(girders, 0), 1);
        Due.is("8 none barred yet", x.of(girders, 7), 0);
        Due.is("8 girders, 251", x.tried(girders, 251), 0);
        Due.is("8 in stock", x.of(girders, 6), 2);
        Due.is("8 barred", x.of(girders, 7), 1);
        Due.is("8 panes not barred by girders", x.of(panes, 7), 0);
        Due.is("8 panes, 100", x.tried(panes, 100), 1);
        Due.is("8 panes, 101, whatever v", x.tried(panes, 101), 0);
        Due.is("8 panes, 2000", x.tried(panes, 2000), 0);
        Due.is("8 panes, none left", x.tried(panes, 0), -3);
        Due.is("8 in stock", x.of(panes, 6), 0);
        Due.is("8 of one kind, foundry and day: barred", x.of(same, 7), 1);
        Due.is("8 not yet come: barred too", x.of(6, 7), 1);
        Due.is("8 of another foundry: not", x.of(elsewhere, 7), 0);
        Due.is("8 columns, 101", x.tried(columns, 101), 0);
        Due.is("8 wrong ones are of another kind: not", x.of(wrong, 7), 0);
        x.pass(1);
        int later = Due.lot(x, 3, 1, 2, 0);
        Due.is("8 of another day: not", x.of(later, 7), 0);
        Due.is("8 still barred the next day", x.of(same, 7), 1);
        Due.is("8 count(8)", x.count(8), 4);
        int parts = Due.lot(x, 0, 0, 1, 0);
        Due.is("8 parts, 100", x.tried(parts, 100), 1);
        Due.is("8 parts, 101", x.tried(parts, 101), 0);
    }

    private static void sell() {
        GlassPalace x = new GlassPalace();
        int lot = Due.lot(x, 5, 0, 999, 0);
        x.order(5, 0, 5, 0);
        Due.is("9 sell(-1, 1)", x.sell(-1, 1), -1);
        Due.is("9 sell(2, 0): NONE ahead of BAD", x.sell(2, 0), -1);
        Due.is("9 sell(0, 0)", x.sell(lot, 0), -2);
        Due.is("9 sell(0, 1000)", x.sell(lot, 1000), -2);
        Due.is("9 sell(1, 1): it has not come", x.sell(1, 1), -3);
        Due.is("9 sell(0, 990)", x.sell(lot, 990), 9);
        x.set(lot, 0);
        x.tried(lot, 101);
        Due.is("9 of(0, 6)", x.of(lot, 6), 7);
        Due.is("9 sell(0, 8)", x.sell(lot, 8), -3);
        Due.is("9 of(0, 6) as it was", x.of(lot, 6), 7);
        Due.is("9 sell(0, 7)", x.sell(lot, 7), 0);
        Due.is("9 sell(0, 1)", x.sell(lot, 1), -3);
        x.down(0, 5);
        Due.is("9 the one taken down is in stock", x.of(lot, 6), 1);
    }
}
