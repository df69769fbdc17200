/** Promises 16 to 19, edge by edge: the bytes of THE TEXT, its CLAUSES and FAULTS, DAYS in force, by which. */
public final class LawEdgesTest {
    private static final int MIN = Integer.MIN_VALUE, MAX = Integer.MAX_VALUE;
    private static final String[] WORDS = {"pack", "pay", "load", "snow", "cut", "bar"};
    private static final int[] WITHOUT = {0, 10, 3, 2, 0, 0};

    public static void main(String[] args) {
        feedNumbers();
        feedBytes();
        feedToTheFull();
        lawDays();
        textStaysOrIsEmpty();
        tenTexts();
        emptyTexts();
        words();
        everyByteAtTheStart();
        blanks();
        digits();
        semicolons();
        eightClauses();
        letters();
        relations();
        digitsOfTests();
        oneOrAnd();
        fourOthers();
        brackets();
        fullText();
        endsTooEarly();
        faultOfALaterClause();
        forceNumbers();
        withoutLaw();
        lettersOfABay();
        daysModuloSeven();
        lettersOfBar();
        numbersOfTests();
        fromItsDay();
        greatestDay();
        lastClause();
        clausesOfOtherWords();
        clausesOfOtherWordsThatDay();
        manyFaults();
        lawOn399();
        whyNumbers();
        whyEdges();
        Due.end("LawEdgesTest");
    }

    private static void law(String text, int due) {
        GlassPalace x = new GlassPalace();
        Palace.feed(x, text);
        Due.is("17 law of «" + text + "»", x.law(0), due);
        Due.is("17 THE TEXT is empty then", x.count(3), 0);
        Due.is("17 TEXTS", x.count(2), due == 0 ? 1 : 0);
    }

    private static void whole(String text) {
        law(text, 0);
    }

    private static void fault(int place, String text) {
        law(text, -10 - place);
    }

    private static String times(String text, int n) {
        StringBuilder row = new StringBuilder();
        for (int k = 0; k < n; k++) {
            row.append(text);
        }
        return row.toString();
    }

    // ---- 16

    private static void feedNumbers() {
        GlassPalace x = new GlassPalace();
        Due.is("16 n -1", x.feed(0x70, -1), -2);
        Due.is("16 n 5", x.feed(0x70, 5), -2);
        Due.is("16 n, the least int", x.feed(0x70, MIN), -2);
        Due.is("16 n, the greatest int", x.feed(0x70, MAX), -2);
        Due.is("16 n 0", x.feed(0x70, 0), 0);
        Due.is("43 no bytes", x.count(3), 0);
        Due.is("16 n 1", x.feed(0x70, 1), 1);
        Due.is("16 n 2", x.feed(0x70, 2), 3);
        Due.is("16 n 3", x.feed(0x70, 3), 6);
        Due.is("16 n 4", x.feed(0x70, 4), 10);
        Due.is("16 n 0 behind them", x.feed(MAX, 0), 10);
        Due.is("43 bytes", x.count(3), 10);
    }

    /** "pay 19" by one byte, by two, by three, by four: the highest of the n lowest comes first. */
    private static void feedBytes() {
        int[][][] ways = {
            {{0x12345670, 1}, {0xffffff61, 1}, {0x00000079, 1}, {0x80000020, 1}, {0x31, 1}, {0x39, 1}},
            {{0x12347061, 2}, {0xffff7920, 2}, {0x80003139, 2}},
            {{0x12706179, 3}, {0xff203139, 3}},
            {{0x70617920, 4}, {0x12343139, 2}},
            {{0x70, 1}, {0x99617920, 3}, {0xabcd3139, 2}, {0x31323334, 0}}};
        for (int[][] way : ways) {
            GlassPalace x = new GlassPalace();
            for (int[] call : way) {
                x.feed(call[0], call[1]);
            }
            Due.is("16 six bytes", x.count(3), 6);
            Due.is("17 pay 19", x.law(0), 0);
            Due.is("18 pay 19", x.force(1, 0, 0), 19);
        }
        GlassPalace x = new GlassPalace();
        Due.is("16 a number below 0: its highest byte first", x.feed(0xf0617920, 4), 4);
        Due.is("17 that is no p", x.law(0), -10);
        x.feed(0x00706179, 4);
        Due.is("17 a byte 0 is none of pay", x.law(0), -10);
        x.feed(0x70617900, 4);
        Due.is("17 a byte 0 is no blank", x.law(0), -13);
    }

    private static void feedToTheFull() {
        for (int left = 0; left <= 4; left++) {
            GlassPalace x = new GlassPalace();
            for (int k = 0; k < 100 - left; k++) {
                x.feed('1', 1);
            }
            Due.is("43 bytes", x.count(3), 100 - left);
            for (int n = 4; n > left; n--) {
                Due.is("16 room for " + left + ", n " + n, x.feed('1', n), -4);
            }
            Due.is("43 bytes as they were", x.count(3), 100 - left);
            Due.is("16 n 0 is never too many", x.feed('1', 0), 100 - left);
            Due.is("16 room for " + left + ", n " + left, x.feed('1', left), 100);
            Due.is("16 full", x.feed('1', 1), -4);
            Due.is("16 full, n 0", x.feed('1', 0), 100);
            Due.is("16 full, n -1", x.feed('1', -1), -2);
            Due.is("16 full, n 5", x.feed('1', 5), -2);
            Due.is("17 the full TEXT is read", x.law(0), -10);
            Due.is("16 it is empty then", x.feed('1', 4), 4);
        }
    }

    // ---- 17: days, numbers, what becomes of THE TEXT

    private static void lawDays() {
        int[] wrong = {-1, 400, MIN, MAX};
        GlassPalace x = new GlassPalace();
        Palace.feed(x, "pay 1");
        for (int day : wrong) {
            Due.is("17 DAY " + day, x.law(day), -2);
            Due.is("17 THE TEXT stays", x.count(3), 5);
        }
        Due.is("17 DAY 0", x.law(0), 0);
        Due.is("17 DAY 399", Palace.law(x, "pay 2", 399), 1);
        Due.is("18 DAY 398", x.force(1, 398, 0), 1);
        Due.is("18 DAY 399", x.force(1, 399, 0), 2);
    }

    private static void textStaysOrIsEmpty() {
        GlassPalace x = new GlassPalace();
        Palace.feed(x, "pay");
        Due.is("17 BAD: THE TEXT stays", x.law(400), -2);
        Palace.feed(x, " 8");
        Due.is("17 and is read with what came behind", x.law(0), 0);
        Due.is("18 pay 8", x.force(1, 0, 0), 8);
        Due.is("17 a FAULT", Palace.law(x, "pay x", 0), -14);
        Due.is("17 THE TEXT is empty behind a FAULT", x.count(3), 0);
        Due.is("17 TEXTS behind a FAULT", x.count(2), 1);
        Due.is("17 the next is read alone", Palace.law(x, "pay 9", 0), 1);
        Due.is("18 pay 9", x.force(1, 0, 0), 9);
    }

    private static void tenTexts() {
        GlassPalace x = new GlassPalace();
        for (int k = 0; k < 9; k++) {
            Due.is("17 TEXTS as they come", Palace.law(x, "pay " + k, 0), k);
        }
        Due.is("17 a FAULT is no TEXT", Palace.law(x, "pay", 0), -13);
        Due.is("17 the tenth", Palace.law(x, "pay 99", 0), 9);
        Palace.feed(x, "pay 1");
        Due.is("17 the eleventh", x.law(0), -4);
        Due.is("17 THE TEXT stays", x.count(3), 5);
        Due.is("17 the eleventh, DAY 400", x.law(400), -2);
        Due.is("17 THE TEXT stays", x.count(3), 5);
        Due.is("17 TEXTS", x.count(2), 10);
        Due.is("18 the tenth holds", x.force(1, 0, 0), 99);
        Due.is("19 the tenth", x.why(1, 0), 900);
        x.feed('?', 1);
        Due.is("17 FULL, with a FAULT", x.law(0), -4);
        Due.is("17 THE TEXT stays", x.count(3), 6);
    }

    // ---- 17: CLAUSES and FAULTS

    private static void emptyTexts() {
        fault(0, "");
        fault(0, ";");
        fault(0, " ");
        fault(0, " pay 1");
        GlassPalace x = new GlassPalace();
        Due.is("17 no TEXT at all", x.law(0), -10);
        Due.is("17 no TEXT at all, again", x.law(0), -10);
        Due.is("17 no TEXT at all, no DAY", x.law(400), -2);
        Due.is("43 TEXTS", x.count(2), 0);
    }

    private static void words() {
        String[] wholes = {"pack 1", "pay 1", "load 1", "snow 1", "cut t=1", "bar t=1"};
        for (String text : wholes) {
            whole(text);
            int blank = text.indexOf(' ');
            for (int k = 0; k <= blank + 1; k++) {
                fault(k, text.substring(0, k));
            }
            for (int k = 0; k <= blank; k++) {
                fault(k, text.substring(0, k) + '?' + text.substring(k));
                fault(k, text.substring(0, k) + (char) (text.charAt(k) ^ 32) + text.substring(k + 1));
            }
        }
        fault(2, "pax 1");
        fault(2, "pak 1");
        fault(1, "pock 1");
        fault(3, "pacy 1");
        fault(2, "lock 1");
        fault(1, "sack 1");
        fault(1, "cat t=1");
        fault(2, "bat t=1");
    }

    private static void everyByteAtTheStart() {
        for (int value = 0; value < 256; value++) {
            GlassPalace x = new GlassPalace();
            boolean begins = "plscb".indexOf((char) value) >= 0;
            x.feed(value, 1);
            Due.is("17 byte " + value + " alone", x.law(0), begins ? -11 : -10);
        }
    }

    private static void blanks() {
        for (String word : WORDS) {
            String rest = word.equals("cut") || word.equals("bar") ? "t=1" : "1";
            int behind = word.length();
            fault(behind, word + rest);
            fault(behind, word + ";" + rest);
            fault(behind + 1, word + "  " + rest);
            fault(behind + 1, word + " ");
            fault(behind + 1, word + " ;");
            fault(behind + 1 + rest.length(), word + " " + rest + " ");
            fault(behind + 1 + rest.length(), word + " " + rest + " ;pay 1");
            fault(behind + 2 + rest.length(), word + " " + rest + "; pay 1");
        }
        fault(5, "cut t =1");
        fault(6, "cut t= 1");
        fault(7, "cut t=1 |t=2");
        fault(8, "cut t=1| t=2");
        fault(5, "cut ! t=1");
        fault(5, "cut ( t=1)");
    }

    private static void digits() {
        String[] words = {"pack ", "pay ", "load ", "snow "};
        for (int word = 0; word < 4; word++) {
            int start = words[word].length();
            int[] numbers = {0, 9, 10, 99, 100, 999};
            for (int n : numbers) {
                GlassPalace x = new GlassPalace();
                Due.is("17 " + words[word] + n, Palace.law(x, words[word] + n, 0), 0);
                Due.is("18 " + words[word] + n, x.force(word, 0, 0), n);
            }
            GlassPalace x = new GlassPalace();
            Due.is("17 three digits, two of them 0", Palace.law(x, words[word] + "007", 0), 0);
            Due.is("18 three digits, two of them 0", x.force(word, 0, 0), 7);
            Due.is("17 three digits, all 0", Palace.law(x, words[word] + "000", 0), 1);
            Due.is("18 three digits, all 0", x.force(word, 0, 0), 0);
            fault(start, words[word]);
            fault(start + 3, words[word] + "1000");
            fault(start + 3, words[word] + "0001");
            fault(start, words[word] + "-1");
            fault(start, words[word] + "+1");
            fault(start + 1, words[word] + "1.");
            fault(start, words[word] + "/");
            fault(start, words[word] + ":");
            fault(start + 1, words[word] + "1/");
            fault(start + 1, words[word] + "1:");
            fault(start, words[word] + "t=1");
        }
    }

    private static void semicolons() {
        whole("pay 1;pay 2");
        whole("cut t=1;pay 2");
        whole("pay 1;cut t=1");
        whole("bar f=1;cut t=1");
        fault(6, "pay 1;");
        fault(6, "pay 1;;pay 2");
        fault(0, ";pay 1");
        fault(5, "pay 1,pay 2");
        fault(8, "pay 999;");
        fault(7, "pay 9999;");
        fault(8, "cut t=1;");
        fault(8, "cut t=1;;");
        fault(7, "cut t=1:pay 1");
        fault(8, "cut (t=1;pay 1)");
    }

    private static void eightClauses() {
        whole("pay 1" + times(";pay 2", 6));
        whole("pay 1" + times(";pay 2", 7));
        fault(47, "pay 1" + times(";pay 2", 7) + ";");
        fault(47, "pay 1" + times(";pay 2", 8));
        fault(47, "pay 1" + times(";pay 2", 7) + ";?");
        fault(42, "pay 1" + times(";pay 2", 6) + ";");
        fault(42, "pay 1" + times(";pay 2", 6) + ";;");
        whole("bar f=1" + times(";cut t=2", 7));
        fault(63, "bar f=1" + times(";cut t=2", 8));
        fault(65, "bar f=1" + times(";cut t=2", 7) + "|f");
        GlassPalace x = new GlassPalace();
        Palace.law(x, "pack 1;pay 2;load 4;snow 5;cut t=6;bar f=7;pay 8;pack 9", 0);
        int[] due = {7, 6, 2, 3, 4, 5};
        for (int word = 0; word < 6; word++) {
            Due.is("19 of eight CLAUSES, word " + word, x.why(word, 0), due[word]);
        }
    }

    private static void letters() {
        for (int value = 0; value < 256; value++) {
            GlassPalace x = new GlassPalace();
            boolean begins = "tlcrdf!(".indexOf((char) value) >= 0;
            Palace.feed(x, value % 2 == 0 ? "cut " : "bar ");
            x.feed(value, 1);
            Due.is("17 byte " + value + " behind the blank", x.law(0), begins ? -15 : -14);
        }
        String[] all = {"t", "l", "c", "r", "d", "f"};
        for (String letter : all) {
            whole("cut " + letter + "=1");
            whole("bar " + letter + "<1");
            fault(5, "cut " + letter);
            fault(5, "cut " + letter + letter + "=1");
        }
    }

    private static void relations() {
        for (int value = 0; value < 256; value++) {
            GlassPalace x = new GlassPalace();
            boolean begins = "<=>".indexOf((char) value) >= 0;
            Palace.feed(x, value % 2 == 0 ? "cut t" : "bar f");
            x.feed(value, 1);
            Due.is("17 byte " + value + " behind the letter", x.law(0), begins ? -16 : -15);
        }
        fault(6, "cut t<=1");
        fault(6, "cut t==1");
        fault(6, "cut t>=1");
        fault(5, "cut t1");
        fault(4, "cut 1=t");
    }

    private static void digitsOfTests() {
        whole("cut t=0");
        whole("cut t=99");
        whole("cut t=999");
        whole("cut t=000");
        fault(6, "cut t=");
        fault(9, "cut t=1000");
        fault(6, "cut t=-1");
        fault(6, "cut t=t");
        fault(6, "cut t=/");
        fault(6, "cut t=:");
        fault(7, "cut t=1/");
        fault(7, "cut t=1:");
        fault(6, "cut t=|");
        fault(6, "cut t=;");
    }

    private static void oneOrAnd() {
        whole("cut t=1|t=2");
        whole("cut t=1&t=2");
        whole("cut t=1|t=2|t=3&t=4&t=5|t=6");
        fault(8, "cut t=1|");
        fault(8, "cut t=1&");
        fault(8, "cut t=1|;");
        fault(8, "cut t=1&;");
        fault(8, "cut t=1|)");
        fault(8, "cut t=1&)");
        fault(8, "cut t=1||t=2");
        fault(8, "cut t=1&&t=2");
        fault(4, "cut |t=1");
        fault(4, "cut &t=1");
        fault(7, "cut t=1t=2");
        fault(7, "cut t=1!t=2");
        fault(7, "cut t=1(t=2)");
    }

    /** All rows of five signs, each ( or !: the first four may stand, the fifth is none. */
    private static void fourOthers() {
        for (int bits = 0; bits < 32; bits++) {
            StringBuilder open = new StringBuilder();
            StringBuilder close = new StringBuilder();
            for (int k = 0; k < 5; k++) {
                boolean bracket = (bits >> k & 1) == 1;
                if (k == 4) {
                    whole("cut " + open + "t=1" + close);
                    fault(11, "cut " + open + "t=1:");
                    fault(8, "bar " + open + "x");
                    fault(8, "bar " + open);
                }
                open.append(bracket ? '(' : '!');
                close.append(bracket ? ")" : "");
            }
            fault(8, "cut " + open + "t=1" + close);
            fault(8, "bar " + open);
            fault(12, "bar t=1&" + open + "t=1" + close);
        }
        whole("cut !!!!t=1&!!!!t=2|!!!!t=3");
        whole("cut ((((t=1))))&((((t=2))))");
        whole("cut (((!t=1|!t=2)&!t=3))");
        whole("cut (t=1)&((((t=2))))");
        whole("cut !t=1&!!!!t=2");
        fault(12, "cut ((((t=1|(t=2)))))");
        fault(12, "cut ((((t=1|!t=2))))");
    }

    private static void brackets() {
        whole("cut (t=1)");
        whole("cut (t=1|t=2)&(t=3)");
        whole("cut !(t=1)");
        fault(8, "cut (t=1");
        fault(8, "cut (t=1;");
        fault(5, "cut ()");
        fault(5, "cut (");
        fault(4, "cut )");
        fault(7, "cut t=1)");
        fault(9, "cut (t=1))");
        fault(9, "cut (t=1)t");
        fault(9, "cut (t=1)(t=1)");
        fault(9, "cut (t=1)!t=1");
        fault(9, "cut (t=1)1");
        fault(9, "cut (t=1|)");
        fault(5, "cut !)");
        fault(5, "cut !");
        fault(5, "cut !|t=1");
        whole("cut (t=1);pay 1");
    }

    /** 100 bytes are a TEXT, if they are one; what ends too early there has its FAULT at 100. */
    private static void fullText() {
        String tests = "bar f=1" + times("|f=2", 22);
        whole(tests + "|f=99");
        whole(tests + "|f=9" + "9");
        fault(100, tests + "|f=9" + "|");
        fault(100, tests + "&f=9" + "&");
        fault(100, tests + "|f=9" + ";");
        fault(99, tests + "|f=9" + ")");
        fault(99, tests + "|f=9" + " ");
        fault(95, tests + " f=99");
        fault(100, "bar " + times("f=1|", 24));
        fault(100, "bar (" + times("f=1|", 23) + "f=1");
        whole("bar (" + times("f=1|", 22) + "f=111)");
        fault(100, times("pay 100;", 7) + "bar " + times("f=1&", 10));
        whole(times("pay 100;", 7) + "bar " + times("f=1&", 9) + "f=19");
    }

    private static void endsTooEarly() {
        String text = "pack 12;cut !(t<3|l=4)&r>0;bar f=1";
        int[] wholes = {6, 7, 22, 26, 34};
        for (int end = 0; end <= text.length(); end++) {
            boolean mayEnd = false;
            for (int whole : wholes) {
                mayEnd = mayEnd || end == whole;
            }
            law(text.substring(0, end), mayEnd ? 0 : -10 - end);
        }
    }

    private static void faultOfALaterClause() {
        GlassPalace x = new GlassPalace();
        Due.is("17 the FAULT is told from the start of THE TEXT", Palace.law(x, "pay 1;load 2;snow", 0), -27);
        for (int word = 0; word < 6; word++) {
            Due.is("18 nothing of it is LAW, word " + word, x.force(word, 0, 0), WITHOUT[word]);
            Due.is("19 nothing of it is LAW, word " + word, x.why(word, 0), -5);
        }
        Due.is("17 the next TEXT is the first", Palace.law(x, "snow 9", 0), 0);
        Due.is("18 pay is none of it", x.force(1, 0, 0), 10);
        Due.is("18 snow", x.force(3, 0, 0), 9);
    }

    // ---- 18

    private static void forceNumbers() {
        GlassPalace x = new GlassPalace();
        int[] wrongWords = {-1, 6, MIN, MAX};
        int[] wrongDays = {-1, 400, MIN, MAX};
        int[] wrongBays = {-1, 30, MIN, MAX};
        int[] wrongFoundries = {-1, 8, 29, MIN, MAX};
        for (int word : wrongWords) {
            Due.is("18 word " + word, x.force(word, 0, 0), -1);
            Due.is("18 word " + word + ", DAY 400", x.force(word, 400, 0), -1);
        }
        for (int word = 0; word < 6; word++) {
            for (int day : wrongDays) {
                Due.is("18 word " + word + ", DAY " + day, x.force(word, day, 0), -2);
            }
            Due.is("18 word " + word + ", DAY 0", x.force(word, 0, 0), WITHOUT[word]);
            Due.is("18 word " + word + ", DAY 399", x.force(word, 399, 0), WITHOUT[word]);
        }
        for (int bay : wrongBays) {
            Due.is("18 BAY " + bay, x.force(4, 0, bay), -1);
            Due.is("18 BAY " + bay + ", DAY 400", x.force(4, 400, bay), -1);
            for (int word = 0; word < 4; word++) {
                Due.is("18 word " + word + ": which does not matter", x.force(word, 0, bay), WITHOUT[word]);
                Due.is("18 word " + word + ": the DAY does", x.force(word, 400, bay), -2);
            }
        }
        for (int foundry : wrongFoundries) {
            Due.is("18 FOUNDRY " + foundry, x.force(5, 0, foundry), -1);
            Due.is("18 FOUNDRY " + foundry + ", DAY -1", x.force(5, -1, foundry), -1);
        }
        Due.is("18 BAY 29", x.force(4, 0, 29), 0);
        Due.is("18 FOUNDRY 7", x.force(5, 0, 7), 0);
    }

    private static void withoutLaw() {
        GlassPalace x = new GlassPalace();
        x.bay(4, 1, 60);
        x.order(3, 2, 7, 0);
        Due.is("18 without any: no packing", x.force(0, 0, 0), 0);
        Due.is("18 without any: pay 10", x.force(1, 0, 0), 10);
        Due.is("18 without any: load 3", x.force(2, 0, 0), 3);
        Due.is("18 without any: snow 2", x.force(3, 0, 0), 2);
        for (int b = 0; b < 30; b++) {
            Due.is("18 without any: the TREE must stay", x.force(4, 0, b), 0);
        }
        for (int f = 0; f < 8; f++) {
            Due.is("18 without any: nothing is BARRED", x.force(5, 0, f), 0);
        }
    }

    private static int mayCut(String test, int bay, int level, int tree, int day) {
        GlassPalace x = new GlassPalace();
        x.bay(bay, 0, level);
        x.bay(bay, 1, tree);
        Palace.law(x, "cut " + test, 0);
        return x.force(4, day, bay);
    }

    private static void lettersOfABay() {
        for (int b = 0; b < 30; b++) {
            Due.is("18 c of BAY " + b, mayCut("c=" + b % 6, b, 0, 0, 0), 1);
            Due.is("18 r of BAY " + b, mayCut("r=" + b / 6, b, 0, 0, 0), 1);
            Due.is("18 c, r of BAY " + b, mayCut("!c=" + b % 6 + "|!r=" + b / 6, b, 0, 0, 0), 0);
        }
        int[] feet = {0, 1, 59, 60};
        for (int t : feet) {
            Due.is("18 t of " + t + " feet", mayCut("t=" + t, 29, 0, t, 0), 1);
            Due.is("18 t of " + t + " feet", mayCut("t<" + t, 29, 0, t, 0), 0);
            Due.is("18 t of " + t + " feet", mayCut("t<" + (t + 1), 29, 0, t, 0), 1);
            Due.is("18 t of " + t + " feet", mayCut("t>" + t, 29, 0, t, 0), 0);
        }
        Due.is("18 t of 60 feet", mayCut("t>59", 29, 0, 60, 0), 1);
        for (int l = 0; l <= 20; l += 5) {
            Due.is("18 l of LEVEL " + l, mayCut("l=" + l, 29, l, 0, 0), 1);
            Due.is("18 l of LEVEL " + l, mayCut("l<" + l + "|l>" + l, 29, l, 0, 0), 0);
        }
        Due.is("18 f is 0 for cut", mayCut("f=0", 29, 9, 9, 9), 1);
        Due.is("18 f is 0 for cut", mayCut("f>0", 29, 9, 9, 9), 0);
    }

    private static void daysModuloSeven() {
        int[] days = {0, 1, 5, 6, 7, 8, 13, 14, 391, 392, 398, 399};
        for (int day : days) {
            Due.is("18 d of DAY " + day + " for cut", mayCut("d=" + day % 7, 0, 0, 0, day), 1);
            Due.is("18 d of DAY " + day + " for cut", mayCut("!d=" + day % 7, 0, 0, 0, day), 0);
            Due.is("18 d is below 7", mayCut("d<7", 0, 0, 0, day), 1);
            GlassPalace x = new GlassPalace();
            Palace.law(x, "bar d=" + day % 7, 0);
            Due.is("18 d of DAY " + day + " for bar", x.force(5, day, 0), 1);
            Due.is("18 d of the DAY ahead for bar", x.force(5, day == 0 ? 1 : day - 1, 0), 0);
        }
    }

    private static void lettersOfBar() {
        String[] noughts = {"t", "l", "c", "r"};
        for (String letter : noughts) {
            GlassPalace x = new GlassPalace();
            for (int b = 0; b < 30; b++) {
                x.bay(b, 0, 5);
                x.bay(b, 1, 5);
            }
            Palace.law(x, "bar " + letter + "=0", 0);
            Palace.law(x, "bar " + letter + ">0", 1);
            for (int f = 0; f < 8; f++) {
                Due.is("18 " + letter + " is 0 for bar", x.force(5, 0, f), 1);
                Due.is("18 " + letter + " is 0 for bar", x.force(5, 1, f), 0);
            }
        }
        for (int f = 0; f < 8; f++) {
            GlassPalace x = new GlassPalace();
            Palace.law(x, "bar f=" + f, 0);
            for (int other = 0; other < 8; other++) {
                Due.is("18 f of FOUNDRY " + other, x.force(5, 0, other), other == f ? 1 : 0);
            }
        }
        // What was asked for a BAY is not left over for a FOUNDRY, nor the other way.
        GlassPalace x = new GlassPalace();
        x.bay(29, 0, 9);
        x.bay(29, 1, 9);
        Palace.law(x, "cut t=9&f=0;bar t=0&l=0&c=0&r=0&f=7", 0);
        Due.is("18 the BAY", x.force(4, 0, 29), 1);
        Due.is("18 the FOUNDRY behind it", x.force(5, 0, 7), 1);
        Due.is("18 the BAY behind it", x.force(4, 0, 29), 1);
    }

    private static void numbersOfTests() {
        Due.is("18 a number of three digits", mayCut("t<999", 0, 0, 60, 0), 1);
        Due.is("18 a number of three digits", mayCut("t=060", 0, 0, 60, 0), 1);
        Due.is("18 a number of three digits", mayCut("t<100", 0, 0, 60, 0), 1);
        Due.is("18 a number of three digits", mayCut("t>100", 0, 0, 60, 0), 0);
        Due.is("18 a number 0", mayCut("t>0", 0, 0, 60, 0), 1);
        Due.is("18 a number 0", mayCut("t<0", 0, 0, 0, 0), 0);
        Due.is("18 a number 0, one of two", mayCut("t=60|t<0", 0, 0, 60, 0), 1);
        Due.is("18 a number 0, one of two", mayCut("t<0|t=60", 0, 0, 60, 0), 1);
        Due.is("18 a number 0, both of two", mayCut("t=60&!t<0", 0, 0, 60, 0), 1);
        Due.is("18 & binds more than |", mayCut("t=60|t=1&t=2", 0, 0, 60, 0), 1);
        Due.is("18 & binds more than |", mayCut("t=1&t=2|t=60", 0, 0, 60, 0), 1);
        Due.is("18 brackets bind most", mayCut("(t=60|t=1)&t=2", 0, 0, 60, 0), 0);
        Due.is("18 brackets behind a sign", mayCut("t=60&(t=60)", 0, 0, 60, 0), 1);
        Due.is("18 brackets behind a sign", mayCut("t=60&(t=60&(t=60&(t=60)))", 0, 0, 60, 0), 1);
        Due.is("18 brackets behind a sign", mayCut("t=60&(t=1|(t=60&(t=1)))", 0, 0, 60, 0), 0);
        Due.is("18 brackets behind a sign", mayCut("t=1|(t=60)", 0, 0, 60, 0), 1);
        Due.is("18 ! within brackets", mayCut("t=60&(!t=60|!(t=1))", 0, 0, 60, 0), 1);
        Due.is("18 ! binds the next alone", mayCut("!t=1|t=1", 0, 0, 1, 0), 1);
        Due.is("18 ! binds the next alone", mayCut("!t=1&t=2", 0, 0, 1, 0), 0);
        Due.is("18 four of !", mayCut("!!!!t=1", 0, 0, 1, 0), 1);
        Due.is("18 three of !", mayCut("!!!t=1", 0, 0, 1, 0), 0);
        Due.is("18 the last of many", mayCut("t=1" + times("|t=1", 21) + "|t=2", 0, 0, 2, 0), 1);
        Due.is("18 the first of many", mayCut("t=2" + times("|t=1", 22), 0, 0, 2, 0), 1);
        Due.is("18 the last of many", mayCut("t=2" + times("&t=2", 21) + "&t=1", 0, 0, 2, 0), 0);
        Due.is("18 the first of many", mayCut("t=1" + times("&t=2", 22), 0, 0, 2, 0), 0);
    }

    private static void fromItsDay() {
        int[] from = {0, 1, 200, 398, 399};
        for (int day : from) {
            GlassPalace x = new GlassPalace();
            Palace.law(x, "pack 1;pay 4;load 5;snow 6;cut t=0;bar f=2", day);
            int[] due = {1, 4, 5, 6, 1, 1};
            for (int word = 0; word < 6; word++) {
                if (day > 0) {
                    Due.is("18 the DAY ahead of " + day, x.force(word, day - 1, 2), WITHOUT[word]);
                    Due.is("19 the DAY ahead of " + day, x.why(word, day - 1), -5);
                    Due.is("18 DAY 0", x.force(word, 0, 2), WITHOUT[word]);
                }
                Due.is("18 on its DAY " + day, x.force(word, day, 2), due[word]);
                Due.is("19 on its DAY " + day, x.why(word, day), word);
                Due.is("18 on DAY 399", x.force(word, 399, 2), due[word]);
            }
        }
    }

    private static void greatestDay() {
        GlassPalace x = new GlassPalace();
        Palace.law(x, "pay 1", 5);
        Palace.law(x, "pay 2", 4);
        Palace.law(x, "pay 3", 6);
        Palace.law(x, "pay 4", 6);
        Palace.law(x, "pay 5", 5);
        Palace.law(x, "pay 6", 0);
        int[][] due = {{0, 6, 500}, {3, 6, 500}, {4, 2, 100}, {5, 5, 400}, {6, 4, 300}, {399, 4, 300}};
        for (int[] d : due) {
            Due.is("18 of the greatest DAY the latest, DAY " + d[0], x.force(1, d[0], 0), d[1]);
            Due.is("19 of the greatest DAY the latest, DAY " + d[0], x.why(1, d[0]), d[2]);
        }
    }

    private static void lastClause() {
        GlassPalace x = new GlassPalace();
        Palace.law(x, "pay 1;load 5;pay 2;cut t=0;pay 3;cut t=1;load 6", 0);
        Due.is("18 its last such CLAUSE: pay", x.force(1, 0, 0), 3);
        Due.is("19 its last such CLAUSE: pay", x.why(1, 0), 4);
        Due.is("18 its last such CLAUSE: load", x.force(2, 0, 0), 6);
        Due.is("19 its last such CLAUSE: load", x.why(2, 0), 6);
        Due.is("18 its last such CLAUSE: cut", x.force(4, 0, 0), 0);
        Due.is("19 its last such CLAUSE: cut", x.why(4, 0), 5);
    }

    private static void clausesOfOtherWords() {
        GlassPalace x = new GlassPalace();
        Palace.law(x, "pay 1;bar f=1", 0);
        Palace.law(x, "load 9", 3);
        Due.is("18 a later TEXT without the word", x.force(1, 3, 0), 1);
        Due.is("19 a later TEXT without the word", x.why(1, 3), 0);
        Due.is("18 a later TEXT without the word: bar", x.force(5, 3, 1), 1);
        Due.is("19 a later TEXT without the word: bar", x.why(5, 3), 1);
        Due.is("18 the later TEXT's own", x.force(2, 3, 0), 9);
        Due.is("19 the later TEXT's own", x.why(2, 3), 100);
        Due.is("18 of none", x.force(3, 3, 0), 2);
        Due.is("19 of none", x.why(3, 3), -5);
    }

    private static void clausesOfOtherWordsThatDay() {
        GlassPalace x = new GlassPalace();
        Palace.law(x, "pay 1;load 2", 5);
        Palace.law(x, "load 3", 5);
        Palace.law(x, "snow 4;pay 6", 4);
        Due.is("18 of that DAY the latest that has it: pay", x.force(1, 5, 0), 1);
        Due.is("19 of that DAY the latest that has it: pay", x.why(1, 5), 0);
        Due.is("18 of that DAY the latest that has it: load", x.force(2, 5, 0), 3);
        Due.is("19 of that DAY the latest that has it: load", x.why(2, 5), 100);
        Due.is("18 none of that DAY has it: snow", x.force(3, 5, 0), 4);
        Due.is("19 none of that DAY has it: snow", x.why(3, 5), 200);
        Due.is("18 the DAY ahead: pay", x.force(1, 4, 0), 6);
        Due.is("18 the DAY ahead: load", x.force(2, 4, 0), 3);
        Due.is("19 the DAY ahead: load", x.why(2, 4), -5);
    }

    /** What was read ahead of a FAULT takes no room from what is read later. */
    private static void manyFaults() {
        GlassPalace x = new GlassPalace();
        String tests = "bar f=1" + times("|f=2", 15);
        for (int k = 0; k < 4; k++) {
            Due.is("17 a FAULT behind many tests", Palace.law(x, tests + "|", 0), -10 - tests.length() - 1);
        }
        Due.is("17 as many tests", Palace.law(x, tests, 0), 0);
        Due.is("18 its first", x.force(5, 0, 1), 1);
        Due.is("18 its others", x.force(5, 0, 2), 1);
        Due.is("18 none of them", x.force(5, 0, 3), 0);
    }

    /** THE LAW of TODAY, where TODAY is 399: its d is 0. */
    private static void lawOn399() {
        GlassPalace x = new GlassPalace();
        x.bay(9, 1, 60);
        int columns = Due.lot(x, 1, 0, 9, 100);
        int girders = Due.lot(x, 2, 0, 9, 999);
        int panes = Due.lot(x, 3, 1, 9, 0);
        x.set(columns, 29);
        x.set(girders, 29);
        x.set(panes, 29);
        x.people(29, 1);
        Palace.law(x, "pack 1;pay 7;load 50;snow 20;cut d=0;bar f=1&d=0", 399);
        for (int n = 0; n < 8; n++) {
            x.pass(n < 7 ? 50 : 48);
        }
        Due.is("43 TODAY", x.count(0), 398);
        int shorter = Due.lot(x, 1, 0, 9, 99);
        Due.is("21 the LAW is not in force on 398", x.bears(29, 0), 5);
        Due.is("11 the LAW is not in force on 398", x.fit(shorter, 0), -5);
        Due.is("15 the LAW is not in force on 398", x.cut(9), -3);
        Due.is("7 the LAW is not in force on 398", x.of(panes, 7), 0);
        Due.is("2 TODAY", x.pass(1), 399);
        Due.is("21 in force on 399", x.bears(29, 0), 70);
        Due.is("11 in force on 399", x.fit(shorter, 0), 1);
        Due.is("15 in force on 399", x.cut(9), 60);
        Due.is("7 in force on 399", x.of(panes, 7), 1);
        Due.is("7 pay of its own DAY", x.of(shorter, 8), 90);
        Due.is("7 pay of 399", x.of(x.order(0, 0, 9, 0), 8), 63);
    }

    // ---- 19

    private static void whyNumbers() {
        GlassPalace x = new GlassPalace();
        int[] words = {-1, 6, MIN, MAX};
        int[] days = {-1, 400, MIN, MAX};
        for (int word : words) {
            Due.is("19 word " + word, x.why(word, 0), -1);
            for (int day : days) {
                Due.is("19 word " + word + ", DAY " + day, x.why(word, day), -1);
            }
        }
        for (int word = 0; word < 6; word++) {
            for (int day : days) {
                Due.is("19 word " + word + ", DAY " + day, x.why(word, day), -2);
            }
            Due.is("19 none on DAY 0", x.why(word, 0), -5);
            Due.is("19 none on DAY 399", x.why(word, 399), -5);
        }
    }

    private static void whyEdges() {
        GlassPalace x = new GlassPalace();
        for (int k = 0; k < 10; k++) {
            Palace.law(x, k == 9 ? "pay 1" + times(";pay 2", 7) : "load 1", k);
        }
        Due.is("19 TEXT 9, CLAUSE 7", x.why(1, 9), 907);
        Due.is("19 the DAY ahead", x.why(1, 8), -5);
        Due.is("19 TEXT 0, CLAUSE 0", x.why(2, 0), 0);
        Due.is("19 TEXT 8, CLAUSE 0", x.why(2, 399), 800);
    }
}
