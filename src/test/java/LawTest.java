import java.util.ArrayList;
import java.util.List;
import java.util.TreeSet;

/** Promises 16 to 19: the text, laws and their faults, what is in force, and by which. */
public final class LawTest {
    private static final String LETTERS = "tlcrdf";
    private static final String[] WORDS = {"pack", "pay", "load", "snow", "cut", "bar"};
    private static final int[] WITHOUT = {0, 10, 3, 2, 0, 0};

    public static void main(String[] args) {
        feed();
        lawRefusals();
        faults();
        behindFaults();
        fullTexts();
        conditions();
        force();
        lawOfADay();
        why();
        everyText();
        everyLaw();
        Due.end("LawTest");
    }

    private static void feed() {
        GlassPalace x = new GlassPalace();
        Due.is("16 feed(0, -1)", x.feed(0, -1), -2);
        Due.is("16 feed(0, 5)", x.feed(0, 5), -2);
        Due.is("16 feed(0, 0)", x.feed(0, 0), 0);
        Due.is("16 feed('pay ', 4)", x.feed(0x70617920, 4), 4);
        Due.is("16 feed('x12', 2): the two lowest", x.feed(0x783132, 2), 6);
        Due.is("16 count(3)", x.count(3), 6);
        Due.is("16 it is read as pay 12", x.law(0), 0);
        Due.is("16 force(1, 0, 0)", x.force(1, 0, 0), 12);
        Due.is("16 count(3) is empty then", x.count(3), 0);
        for (int k = 1; k <= 24; k++) {
            Due.is("16 feed, 4 bytes", x.feed(-1, 4), 4 * k);
        }
        Due.is("16 feed, 3 bytes", x.feed(-1, 3), 99);
        Due.is("16 feed, 2 more", x.feed(0, 2), -4);
        Due.is("16 feed, 5: BAD ahead of FULL", x.feed(0, 5), -2);
        Due.is("16 feed, 1 more", x.feed(0, 1), 100);
        Due.is("16 feed, 1 beyond", x.feed(0, 1), -4);
        Due.is("16 feed, none beyond", x.feed(0, 0), 100);
        Due.is("16 a byte of 255 begins nothing", x.law(0), -10);
    }

    private static void lawRefusals() {
        GlassPalace x = new GlassPalace();
        Due.feed(x, "pay 7");
        Due.is("17 law(-1)", x.law(-1), -2);
        Due.is("17 law(400)", x.law(400), -2);
        Due.is("17 the text stays", x.count(3), 5);
        Due.is("17 law(399)", x.law(399), 0);
        Due.is("17 no clause", x.law(0), -10);
        for (int k = 1; k < 10; k++) {
            Due.is("17 law " + k, Due.law(x, "pay " + k, k), k);
        }
        Due.feed(x, "what");
        Due.is("17 the eleventh", x.law(0), -4);
        Due.is("17 the eleventh: BAD ahead of FULL", x.law(400), -2);
        Due.is("17 the text stays", x.count(3), 4);
        Due.is("17 count(2)", x.count(2), 10);
    }

    private static void fault(String text, int fault) {
        GlassPalace x = new GlassPalace();
        int due = fault < 0 ? 0 : -10 - fault;
        Due.is("17 law of «" + text + "»", Due.law(x, text, 0), due);
        Due.is("17 the text is empty then", x.count(3), 0);
        Due.is("17 texts", x.count(2), fault < 0 ? 1 : 0);
    }

    private static void faults() {
        String[] whole = {"pack 0", "pay 999", "load 007", "snow 12", "cut t=1", "bar f=2", "pack 1;pay 2",
            "cut !t<1&(l>2|c=3)", "bar !!!!f=1", "bar ((((f=1))))", "bar !(!(f=1))&!(!(d=2))", "cut (t=1)|(t=2)"};
        for (String text : whole) {
            fault(text, -1);
        }
        fault("", 0);
        fault("x", 0);
        fault("pa", 2);
        fault("pax 1", 2);
        fault("packs 1", 4);
        fault("pay", 3);
        fault("pay ", 4);
        fault("pay  1", 4);
        fault("pay x", 4);
        fault("pay 1234", 7);
        fault("pay 1 ", 5);
        fault("pay 1;", 6);
        fault("pay 1;;", 6);
        fault(";pay 1", 0);
        fault("Pay 1", 0);
        fault("loa", 3);
        fault("cat t=1", 1);
        fault("cut", 3);
        fault("cut ", 4);
        fault("cut x=1", 4);
        fault("cut t", 5);
        fault("cut t!1", 5);
        fault("cut t=", 6);
        fault("cut t=x", 6);
        fault("cut t=1234", 9);
        fault("cut t=1)", 7);
        fault("cut (t=1", 8);
        fault("cut (t=1;pay 1", 8);
        fault("cut ()", 5);
        fault("cut t=1|", 8);
        fault("cut t=1||", 8);
        fault("cut t=1&|", 8);
        fault("cut t=1 &", 7);
        fault("cut t=1!", 7);
        fault("cut !", 5);
        fault("cut !!!!!t=1", 8);
        fault("cut (!(!(t=1))))", 8);
        fault("cut (!(!t=1)))", 13);
        fault("cut !!!!(t=1)", 8);
        fault("cut ((((!t=1))))", 8);
    }

    /** What was read of a text with a FAULT is no law. */
    private static void behindFaults() {
        GlassPalace x = new GlassPalace();
        StringBuilder many = new StringBuilder("bar !f=1");
        for (int k = 0; k < 15; k++) {
            many.append("&!f=1");
        }
        for (int k = 0; k < 4; k++) {
            Due.is("17 a clause, then a fault", Due.law(x, "pay 1;cut t=0;pack", 0), -28);
            Due.is("17 many tests, then a fault", Due.law(x, many + "&", 0), -11 - many.length());
        }
        Due.is("17 another text", Due.law(x, "load 2;" + many, 0), 0);
        Due.is("19 by its first clause", x.why(2, 0), 0);
        Due.is("19 by its second clause", x.why(5, 0), 1);
        Due.is("19 pay was not read", x.why(1, 0), -5);
        Due.is("19 cut was not read", x.why(4, 0), -5);
        Due.is("18 pay", x.force(1, 0, 0), 10);
        Due.is("18 bar, foundry 1", x.force(5, 0, 1), 0);
        Due.is("18 bar, foundry 2", x.force(5, 0, 2), 1);
    }

    private static void fullTexts() {
        fault("pay 1;pay 2;pay 3;pay 4;pay 5;pay 6;pay 7;pay 8", -1);
        fault("pay 1;pay 2;pay 3;pay 4;pay 5;pay 6;pay 7;pay 8;", 47);
        fault("pay 1;pay 2;pay 3;pay 4;pay 5;pay 6;pay 7;pay 8;pay 9", 47);
        StringBuilder longest = new StringBuilder("bar f=1");
        for (int k = 0; k < 23; k++) {
            longest.append("|f=2");
        }
        fault(longest + "8", -1);
        GlassPalace x = new GlassPalace();
        Due.is("17 a text of 100 bytes", Due.law(x, longest + "|", 0), -110);
        Due.is("17 a text of 100 bytes", Due.law(x, longest + "8", 0), 0);
        Due.is("17 its last test", x.force(5, 0, 1), 1);
        Due.is("17 its first tests", x.force(5, 0, 2), 1);
        Due.is("17 none of its tests", x.force(5, 0, 3), 0);
    }

    private static void conditions() {
        String[] some = {"t=30", "t<31", "t>29", "l=4", "c=2", "r=1", "d=5", "f=0", "!t=31", "t=30&l=4",
            "t=1|l=4", "t=1&l=1|c=2", "c=2|t=1&l=1", "!(t=1|l=1)", "!t=1&!l=1", "(t=1|t=30)&r=1", "!!c=2",
            "c=2|c=2&t=1", "f<1&f=0", "t=030", "!(!(t=30))", "!t=1|c=2&t=1"};
        String[] none = {"t=31", "t<30", "t>30", "l=5", "c=1", "r=2", "d=4", "f=1", "!t=30", "t=30&l=5",
            "t=1|l=5", "(c=2|t=1)&l=1", "!t=30|c=1", "!(t=30|l=1)", "t>30|t<30", "!t=30&c=2", "!!!c=2"};
        for (String test : some) {
            Due.is("18 cut " + test, mayCut(test), 1);
        }
        for (String test : none) {
            Due.is("18 cut " + test, mayCut(test), 0);
        }
    }

    /** BAY 8 (column 2, row 1), LEVEL 4, 30 feet, DAY 12 (d 5). */
    private static int mayCut(String test) {
        GlassPalace x = new GlassPalace();
        x.bay(8, 0, 4);
        x.bay(8, 1, 30);
        Due.is("law cut " + test, Due.law(x, "cut " + test, 12), 0);
        return x.force(4, 12, 8);
    }

    private static void force() {
        GlassPalace x = new GlassPalace();
        Due.is("18 force(-1, 0, 0)", x.force(-1, 0, 0), -1);
        Due.is("18 force(6, 400, 0)", x.force(6, 400, 0), -1);
        Due.is("18 force(4, 0, -1)", x.force(4, 0, -1), -1);
        Due.is("18 force(4, 400, 30): NONE ahead of BAD", x.force(4, 400, 30), -1);
        Due.is("18 force(5, 0, -1)", x.force(5, 0, -1), -1);
        Due.is("18 force(5, 0, 8)", x.force(5, 0, 8), -1);
        Due.is("18 force(4, 0, 29)", x.force(4, 0, 29), 0);
        Due.is("18 force(5, 0, 7)", x.force(5, 0, 7), 0);
        for (int word = 0; word < 6; word++) {
            Due.is("18 force(" + word + ", -1, 0)", x.force(word, -1, 0), -2);
            Due.is("18 force(" + word + ", 400, 0)", x.force(word, 400, 0), -2);
            Due.is("18 force(" + word + ", 399, 0)", x.force(word, 399, 0), WITHOUT[word]);
        }
        Due.is("18 which does not matter", x.force(1, 0, -77), 10);
        Due.law(x, "pack 1;pay 2;load 33;snow 999", 0);
        int[] due = {1, 2, 33, 999};
        for (int word = 0; word < 4; word++) {
            Due.is("18 force(" + word + ", 0, 99)", x.force(word, 0, 99), due[word]);
        }
        Due.law(x, "cut t=0&f=0;bar t=0&l=0&c=0&r=0&f=5&d=1", 0);
        x.bay(3, 0, 9);
        Due.is("18 without a tree as of 0 feet, f is 0", x.force(4, 0, 3), 1);
        Due.is("18 t, l, c, r are 0 for bar, d 1", x.force(5, 8, 5), 1);
        Due.is("18 of another foundry", x.force(5, 8, 4), 0);
        Due.is("18 of another day", x.force(5, 9, 5), 0);
    }

    private static void lawOfADay() {
        GlassPalace x = new GlassPalace();
        Due.law(x, "pay 1", 10);
        Due.law(x, "pay 2;load 9", 20);
        Due.law(x, "pay 3", 5);
        Due.law(x, "pay 4;pay 5;snow 1", 20);
        Due.law(x, "load 8", 15);
        int[] days = {4, 5, 9, 10, 19, 20, 399};
        int[] due = {10, 3, 3, 1, 1, 5, 5};
        for (int k = 0; k < days.length; k++) {
            Due.is("18 pay of day " + days[k], x.force(1, days[k], 0), due[k]);
        }
        Due.is("18 load of day 14", x.force(2, 14, 0), 3);
        Due.is("18 load of day 19", x.force(2, 19, 0), 8);
        Due.is("18 load of day 20", x.force(2, 20, 0), 9);
        Due.is("18 snow of day 20", x.force(3, 20, 0), 1);
        Due.law(x, "bar f=1", 0);
        Due.law(x, "bar f=2", 3);
        Due.is("18 the earlier bar holds no more", x.force(5, 3, 1), 0);
        Due.is("18 it held the day before", x.force(5, 2, 1), 1);
    }

    private static void why() {
        GlassPalace x = new GlassPalace();
        Due.is("19 why(-1, 0)", x.why(-1, 0), -1);
        Due.is("19 why(6, 400)", x.why(6, 400), -1);
        Due.is("19 why(0, -1)", x.why(0, -1), -2);
        Due.is("19 why(5, 400)", x.why(5, 400), -2);
        for (int word = 0; word < 6; word++) {
            Due.is("19 why(" + word + ", 0)", x.why(word, 0), -5);
        }
        Due.law(x, "pack 1;pay 2;pack 3;bar f=1;cut t=1;load 4", 1);
        Due.law(x, "snow 1;pay 2;pack 3", 2);
        Due.is("19 why(0, 0)", x.why(0, 0), -5);
        Due.is("19 why(0, 1)", x.why(0, 1), 2);
        Due.is("19 why(1, 1)", x.why(1, 1), 1);
        Due.is("19 why(2, 1)", x.why(2, 1), 5);
        Due.is("19 why(3, 1)", x.why(3, 1), -5);
        Due.is("19 why(4, 399)", x.why(4, 399), 4);
        Due.is("19 why(5, 1)", x.why(5, 1), 3);
        Due.is("19 why(0, 2)", x.why(0, 2), 102);
        Due.is("19 why(3, 2)", x.why(3, 2), 100);
    }

    // ---- every text: whether one begins so is found by following all that may come, byte by byte

    private static void everyText() {
        Due.Dice dice = new Due.Dice(17);
        GlassPalace x = new GlassPalace();
        int calls = 0;
        for (int k = 0; k < 6000; k++) {
            String text = spoilt(dice, randomText(dice));
            calls += 6 + text.length() / 2;
            if (calls > 450 || x.count(2) == 10) {
                x = new GlassPalace();
                calls = 0;
            }
            int fault = faultOf(text);
            int due = fault < 0 ? x.count(2) : -10 - fault;
            Due.is("17 law of «" + text + "»", Due.law(x, text, 0), due);
        }
    }

    private static String spoilt(Due.Dice dice, String text) {
        String signs = "tlcrdf<=>0123456789()!&|; packyloadsnowcutbar";
        StringBuilder spoilt = new StringBuilder(text);
        for (int times = dice.roll(3); times > 0 && spoilt.length() > 0; times--) {
            int place = dice.roll(spoilt.length());
            char sign = signs.charAt(dice.roll(signs.length()));
            switch (dice.roll(4)) {
                case 0: spoilt.setCharAt(place, sign); break;
                case 1: spoilt.insert(place, sign); break;
                case 2: spoilt.deleteCharAt(place); break;
                default: spoilt.setLength(place);
            }
        }
        if (spoilt.length() > 100) {
            spoilt.setLength(100);
        }
        return spoilt.toString();
    }

    /** -1 if the whole text may stand. */
    private static int faultOf(String text) {
        TreeSet<String> ways = new TreeSet<>();
        unfold("T8", ways);
        for (int p = 0; p < text.length(); p++) {
            TreeSet<String> next = new TreeSet<>();
            for (String way : ways) {
                if (!way.isEmpty() && way.charAt(0) == '\'' && way.charAt(1) == text.charAt(p)) {
                    unfold(way.substring(2), next);
                }
            }
            if (next.isEmpty()) {
                return p;
            }
            ways = next;
        }
        return ways.contains("") ? -1 : text.length();
    }

    /** All that a row of signs may begin with: 'x is the byte x, a capital with a number is a rule. */
    private static void unfold(String row, TreeSet<String> into) {
        if (row.isEmpty() || row.charAt(0) == '\'') {
            into.add(row);
            return;
        }
        int n = row.charAt(1) - '0';
        String rest = row.substring(2);
        switch (row.charAt(0)) {
            case 'T':
                unfold("C0" + rest, into);
                if (n > 1) {
                    unfold("C0';T" + (n - 1) + rest, into);
                }
                break;
            case 'C':
                for (String word : WORDS) {
                    String behind = word.equals("cut") || word.equals("bar") ? "E0" : "N3";
                    unfold(bytes(word + " ") + behind + rest, into);
                }
                break;
            case 'N':
                for (int digit = 0; digit < 10; digit++) {
                    unfold("'" + digit + rest, into);
                    if (n > 1) {
                        unfold("'" + digit + "N" + (n - 1) + rest, into);
                    }
                }
                break;
            case 'E':
                unfold("A" + n + "O" + n + rest, into);
                break;
            case 'O':
                unfold(rest, into);
                unfold("'|A" + n + "O" + n + rest, into);
                break;
            case 'A':
                unfold("F" + n + "U" + n + rest, into);
                break;
            case 'U':
                unfold(rest, into);
                unfold("'&F" + n + "U" + n + rest, into);
                break;
            case 'F':
                if (n < 4) {
                    unfold("'!F" + (n + 1) + rest, into);
                    unfold("'(E" + (n + 1) + "')" + rest, into);
                }
                for (int k = 0; k < LETTERS.length(); k++) {
                    unfold("'" + LETTERS.charAt(k) + "R0" + rest, into);
                }
                break;
            default:
                for (char sign : new char[] {'<', '=', '>'}) {
                    unfold("'" + sign + "N3" + rest, into);
                }
        }
    }

    private static String bytes(String word) {
        StringBuilder row = new StringBuilder();
        for (int k = 0; k < word.length(); k++) {
            row.append('\'').append(word.charAt(k));
        }
        return row.toString();
    }

    // ---- every law: conditions taken apart at their signs, laws chosen by the words of the document

    private static String randomText(Due.Dice dice) {
        StringBuilder text = new StringBuilder();
        int clauses = dice.roll(12) == 0 ? 8 : dice.from(1, 4);
        for (int k = 0; k < clauses; k++) {
            String word = WORDS[dice.roll(6)];
            boolean test = word.equals("cut") || word.equals("bar");
            String clause = word + " " + (test ? either(dice, 0) : number(dice));
            if (text.length() + clause.length() < 100) {
                text.append(k > 0 && text.length() > 0 ? ";" : "").append(clause);
            }
        }
        return text.length() == 0 ? "pay 1" : text.toString();
    }

    private static String number(Due.Dice dice) {
        return dice.roll(9) == 0 ? "00" + dice.roll(10) : Integer.toString(dice.roll(dice.roll(5) == 0 ? 1000 : 8));
    }

    private static String either(Due.Dice dice, int around) {
        StringBuilder text = new StringBuilder(one(dice, around));
        while (dice.roll(5) < 2) {
            text.append(dice.roll(2) == 0 ? '|' : '&').append(one(dice, around));
        }
        return text.toString();
    }

    private static String one(Due.Dice dice, int around) {
        int roll = around < 4 ? dice.roll(5) : 4;
        if (roll == 0) {
            return "!" + one(dice, around + 1);
        }
        if (roll == 1) {
            return "(" + either(dice, around + 1) + ")";
        }
        return LETTERS.charAt(dice.roll(6)) + "" + "<=>".charAt(dice.roll(3)) + number(dice);
    }

    private static void everyLaw() {
        Due.Dice dice = new Due.Dice(18);
        for (int k = 0; k < 300; k++) {
            GlassPalace x = new GlassPalace();
            List<String> texts = new ArrayList<>();
            List<Integer> days = new ArrayList<>();
            int[] levels = new int[30];
            int[] trees = new int[30];
            for (int b = 0; b < 30; b++) {
                levels[b] = dice.roll(9);
                trees[b] = dice.roll(9);
                x.bay(b, 0, levels[b]);
                x.bay(b, 1, trees[b]);
            }
            for (int t = dice.roll(6); t > 0; t--) {
                texts.add(randomText(dice));
                days.add(dice.roll(12));
                Due.is("law", Due.law(x, texts.get(texts.size() - 1), days.get(days.size() - 1)), texts.size() - 1);
            }
            for (int asked = 0; asked < 60; asked++) {
                int word = dice.roll(6);
                int day = dice.roll(14);
                int which = dice.roll(word == 5 ? 8 : 30);
                int[] by = byWhich(texts, days, WORDS[word], day);
                Due.is("19 why(" + word + ", " + day + ") of " + texts + days,
                    x.why(word, day), by == null ? -5 : 100 * by[0] + by[1]);
                int[] letters = word == 5 ? new int[] {0, 0, 0, 0, day % 7, which}
                    : new int[] {trees[which], levels[which], which % 6, which / 6, day % 7, 0};
                int due = WITHOUT[word];
                if (by != null) {
                    String value = texts.get(by[0]).split(";")[by[1]].split(" ")[1];
                    due = word < 4 ? Integer.parseInt(value) : holds(value, letters) ? 1 : 0;
                }
                Due.is("18 force(" + word + ", " + day + ", " + which + ") of " + texts + days,
                    x.force(word, day, which), due);
            }
        }
    }

    private static int[] byWhich(List<String> texts, List<Integer> days, String word, int day) {
        int[] by = null;
        for (int from = 0; from <= day; from++) {
            for (int t = 0; t < texts.size(); t++) {
                String[] clauses = texts.get(t).split(";");
                for (int c = 0; c < clauses.length; c++) {
                    if (days.get(t) == from && clauses[c].startsWith(word + " ")) {
                        by = new int[] {t, c};
                    }
                }
            }
        }
        return by;
    }

    private static boolean holds(String text, int[] letters) {
        int either = lastOutside(text, '|');
        if (either >= 0) {
            return holds(text.substring(0, either), letters) | holds(text.substring(either + 1), letters);
        }
        int both = lastOutside(text, '&');
        if (both >= 0) {
            return holds(text.substring(0, both), letters) & holds(text.substring(both + 1), letters);
        }
        if (text.charAt(0) == '!') {
            return !holds(text.substring(1), letters);
        }
        if (text.charAt(0) == '(') {
            return holds(text.substring(1, text.length() - 1), letters);
        }
        int value = letters[LETTERS.indexOf(text.charAt(0))];
        int number = Integer.parseInt(text.substring(2));
        return text.charAt(1) == '<' ? value < number : text.charAt(1) == '=' ? value == number : value > number;
    }

    private static int lastOutside(String text, char sign) {
        int open = 0;
        for (int k = text.length() - 1; k >= 0; k--) {
            open += text.charAt(k) == ')' ? 1 : text.charAt(k) == '(' ? -1 : 0;
            if (open == 0 && text.charAt(k) == sign) {
                return k;
            }
        }
        return -1;
    }
}
