/** The boundary sentences of "4 TEXTS", and of promises 24 to 28. */
public final class TextsBoundsTest {
    private static final int BAD = Bounds.BAD, FULL = Bounds.FULL, NONE = Bounds.NONE;
    private static final String LEAST_INT = "2048*1024*1024", MOST_INT = "(2048*1024*1024-1)";
    private static final String SIGNS_BETWEEN = "|&<=>+-*/";

    public static void main(String[] args) {
        feeding();
        highestFirst();
        trimming();
        usedUp();
        fourteenAtMost();
        whatIsRefusedFirst();
        anEmptyTape();
        aFullTape();
        manyLongTexts();
        keys();
        names();
        numbersOfDigits();
        signsByThemselves();
        bytesAtTheEnds();
        blanks();
        wordsThatNeedABlank();
        aTestAtMost();
        theLoosestFirst();
        asManyAsThereAre();
        theEndTooSoon();
        theNinthBracket();
        theNinthNot();
        eachByItself();
        intsWrap();
        byZero();
        cutTowardsZero();
        tests();
        whatIsTrue();
        toldLast();
        tellingATest();
        why();
        Bounds.end();
    }

    private static int text(String text) {
        return Bounds.text(new FineSlot(), text);
    }

    /** What a law makes of owe on a day, by a rule with a 7 and b 11. */
    private static int owe(String law, int day) {
        FineSlot x = new FineSlot();
        x.rule(0, 7, 11, 1);
        int answer = Bounds.text(x, "owe " + law);
        return answer == 0 ? x.owes(0, day) : answer;
    }

    private static void feeding() {
        Bounds.sentence("Twelve bytes come to THE TAPE, the highest of each number first: how many it has. FULL: it would have more than 96.");
        FineSlot x = new FineSlot();
        for (int n = 12; n <= 96; n += 12) {
            Bounds.due("feed", x.feed(1, 2, 3), n);
        }
        Bounds.due("the ninth", x.feed(1, 2, 3), FULL);
        Bounds.due("bytes", x.count(6), 96);
        for (int n = 83; n <= 96; n++) {
            FineSlot y = Bounds.made(Bounds::full);
            y.trim(n);
            Bounds.due("feed behind " + n, y.feed(1, 2, 3), n <= 84 ? n + 12 : FULL);
            Bounds.due("bytes", y.count(6), n <= 84 ? n + 12 : n);
        }
        Bounds.refused("feed a full tape", Bounds::full, y -> y.feed(-1, -1, -1), FULL);
        Bounds.refused("feed behind 85", TextsBoundsTest::eightyFive, y -> y.feed(-1, -1, -1), FULL);
    }

    /** 85 bytes, with which a text ends. */
    private static void eightyFive(FineSlot x) {
        Bounds.full(x);
        x.trim(85);
    }

    private static void highestFirst() {
        Bounds.sentence("Twelve bytes come to THE TAPE, the highest of each number first");
        for (int i = 0; i < 12; i++) {
            for (int b : new int[] {0, '?', 127, 128, 255}) {
                FineSlot x = new FineSlot();
                x.feed(0x6f776520, 0x20202020, 0x20202020);
                int[] three = {0x20202020, 0x20202020, 0x20202020};
                int shift = 24 - i % 4 * 8;
                three[i / 4] = three[i / 4] & ~(255 << shift) | b << shift;
                x.feed(three[0], three[1], three[2]);
                Bounds.due("byte " + b + " at " + i, x.text(), -112 - i);
            }
        }
    }

    private static void trimming() {
        Bounds.sentence("THE TAPE keeps its first n bytes: n. BAD.");
        Bounds.outside("trim", 0, 0, Bounds::bare, (x, v) -> x.trim(v), BAD);
        Bounds.outside("trim", 0, 13, Bounds::rich, (x, v) -> x.trim(v), BAD);
        Bounds.outside("trim", 0, 96, Bounds::full, (x, v) -> x.trim(v), BAD);
        Bounds.refused("trim to what it has", Bounds::bare, x -> x.trim(0), 0);
        Bounds.refused("trim to what it has", Bounds::rich, x -> x.trim(13), 13);
        Bounds.refused("trim to what it has", Bounds::full, x -> x.trim(96), 96);
        for (int n = 0; n <= 12; n++) {
            FineSlot x = new FineSlot();
            Bounds.feed(x, "owe 1+2+3+4+");
            Bounds.due("trim", x.trim(n), n);
            Bounds.due("bytes", x.count(6), n);
            Bounds.due("one more", x.trim(n + 1), BAD);
            // "o" and "ow" are words that begin no text.
            int want = n == 1 || n == 2 ? -100 : n % 2 == 1 && n > 4 ? 0 : -100 - n;
            Bounds.due("its first " + n, x.text(), want);
        }
        FineSlot x = new FineSlot();
        Bounds.feed(x, "owe 1234");
        x.trim(5);
        x.feed(0x20202020, 0x20202020, 0x20202020);
        x.rule(0, 0, 0, 1);
        Bounds.due("what comes next comes behind them", x.text(), 0);
        Bounds.due("owes", x.owes(0, 0), 1);
    }

    private static void usedUp() {
        Bounds.sentence("an act that reads it uses it up, whatever it answers");
        FineSlot x = new FineSlot();
        for (int i = 0; i < 14; i++) {
            Bounds.due("a text", Bounds.text(x, "owe " + i), i);
            Bounds.due("bytes", x.count(6), 0);
            Bounds.due("another one of nothing", x.text(), -100);
        }
        Bounds.due("FULL", Bounds.text(x, "owe 5"), FULL);
        Bounds.due("bytes", x.count(6), 0);
        Bounds.due("a FAULT", Bounds.text(x, "owe ?"), -104);
        Bounds.due("bytes", x.count(6), 0);
        Bounds.due("trim", x.trim(1), BAD);
        Bounds.due("feed", x.feed(0, 0, 0), 12);
        Bounds.leaves("a FAULT leaves all but the tape", Bounds::rich, y -> Bounds.text(y, "owe d + ?"), -108, y -> y.trim(0));
        Bounds.leaves("no text at all", TextsBoundsTest::richWithoutTape, y -> y.text(), -100, y -> { });
    }

    private static void richWithoutTape(FineSlot x) {
        Bounds.rich(x);
        x.trim(0);
    }

    private static void fourteenAtMost() {
        Bounds.sentence("TEXTS, 14 at most, numbered from 0");
        FineSlot x = new FineSlot();
        for (int i = 0; i < 14; i++) {
            Bounds.due("text " + i, Bounds.text(x, i % 2 == 0 ? "owe 1" : "shame 1"), i);
            Bounds.due("texts", x.count(4), i + 1);
        }
        Bounds.due("the fifteenth", Bounds.text(x, "forget 1"), FULL);
        Bounds.due("texts", x.count(4), 14);
        Bounds.due("it does not count", x.why(2), NONE);
        Bounds.leaves("the fifteenth leaves all but the tape", Bounds::full, y -> y.text(), FULL, y -> y.trim(0));
    }

    private static void whatIsRefusedFirst() {
        Bounds.sentence("-100 less the place of its FAULT; FULL.");
        Bounds.leaves("a FAULT ahead of FULL", Bounds::full, x -> Bounds.text(x, "owe (1"), -106, x -> x.trim(0));
        Bounds.leaves("a FAULT ahead of FULL", Bounds::full, x -> Bounds.text(x, ""), -100, x -> x.trim(0));
        Bounds.leaves("FULL", Bounds::full, x -> Bounds.text(x, "owe (1)"), FULL, x -> x.trim(0));
    }

    private static void anEmptyTape() {
        Bounds.sentence("the end (the place behind the last byte), if it comes too soon");
        Bounds.refused("an empty tape", Bounds::bare, x -> x.text(), -100);
        for (int n = 0; n <= 96; n++) {
            Bounds.due(n + " blanks", text(" ".repeat(n)), -100 - n);
        }
    }

    private static void aFullTape() {
        Bounds.sentence("THE TAPE (96 bytes at most");
        Bounds.due("95 bytes", text("owe " + "1+".repeat(45) + "1"), 0);
        Bounds.due("96 bytes", text("owe " + "1+".repeat(45) + "12"), 0);
        Bounds.due("96 bytes, the end too soon", text("owe " + "1+".repeat(46)), -196);
        Bounds.due("95 bytes, the end too soon", text(" owe " + "1+".repeat(45)), -195);
        Bounds.due("96 bytes, the last one wrong", text("owe " + "1+".repeat(45) + "1?"), -195);
        Bounds.due("96 bytes, the last word wrong", text("owe" + " ".repeat(88) + "12345"), -191);
        Bounds.due("96 bytes, blanks behind", text("owe 1" + " ".repeat(91)), 0);
        Bounds.due("96 bytes, blanks ahead", text(" ".repeat(91) + "owe 1"), 0);
        Bounds.due("96 bytes, blanks within", text("owe" + " ".repeat(92) + "1"), 0);
        Bounds.due("its value", owe("1+".repeat(45) + "12", 0), 57);
        Bounds.due("its value, from the left", owe("9999-" + "1-".repeat(43) + "1", 0), 999);
        Bounds.due("its value", owe("99-" + "1-".repeat(44) + "1", 0), 54);
    }

    private static void manyLongTexts() {
        Bounds.sentence("TEXTS, 14 at most, numbered from 0, from THE TAPE (96 bytes at most; an act that reads it uses it up, whatever it answers)");
        FineSlot x = new FineSlot();
        x.rule(0, 7, 11, 1);
        for (int i = 0; i < 14; i++) {
            Bounds.due("with a FAULT", Bounds.text(x, "owe " + "a+".repeat(45) + "?"), -194);
            Bounds.due("text " + i, Bounds.text(x, "owe " + "1+".repeat(45) + (10 + i)), i);
            Bounds.due("its value", x.owes(0, 0), 55 + i);
            Bounds.due("its NUMBERS", x.textTold(i, 1), 46);
        }
        for (int i = 0; i < 14; i++) {
            Bounds.due("its NUMBERS, later on", x.textTold(i, 1), 46);
        }
        FineSlot y = new FineSlot();
        y.rule(0, 7, 11, 1);
        Bounds.due("a deep one", Bounds.text(y, "owe 1+(1+(1+(1+(1+(1+(1+(1+(1*2+3*d))))))))"), 0);
        Bounds.due("its value", y.owes(0, 5), 25);
        Bounds.text(y, "owe 1=1");
        Bounds.due("a short one behind it", y.owes(0, 5), 1);
    }

    private static void keys() {
        Bounds.sentence("KEY: owe | shame | forget");
        Bounds.due("owe", text("owe 1"), 0);
        Bounds.due("shame", text("shame 1"), 0);
        Bounds.due("forget", text("forget 1"), 0);
        String[] others = {"o", "ow", "owd", "owf", "nwe", "pwe", "owee", "owes", "sham", "shamd", "shamf", "shamee", "forge",
            "forges", "forgeu", "forgets", "oweshame", "a", "z", "abcdefghijklmnopqrstuvwxyz", "1", "(", "!", "d"};
        for (String other : others) {
            Bounds.due(other, text(other + " 1"), -100);
            Bounds.due(other + " behind a blank", text(" " + other + " 1"), -101);
        }
        Bounds.due("two KEYs", text("owe owe 1"), -104);
        Bounds.due("two KEYs", text("owe shame"), -104);
        Bounds.due("no capitals", text("OWE 1"), -100);
        Bounds.due("no capitals", text("owE 1"), -100);
    }

    private static void names() {
        Bounds.sentence("NAMES, each one letter: of owe d the day, a, b; of shame o, s SHAME; of forget d, f FORGETS");
        String[] keys = {"owe", "shame", "forget"};
        String[] names = {"abd", "os", "df"};
        for (int key = 0; key < 3; key++) {
            int at = keys[key].length() + 1;
            for (char c = 'a'; c <= 'z'; c++) {
                boolean is = names[key].indexOf(c) >= 0;
                Bounds.due(keys[key] + " " + c, text(keys[key] + " " + c), is ? 0 : -100 - at);
                Bounds.due(keys[key] + " " + c + c, text(keys[key] + " " + c + c), -100 - at);
                Bounds.due(keys[key] + " 1+" + c, text(keys[key] + " 1+" + c), is ? 0 : -102 - at);
            }
        }
        Bounds.due("d on day 0", owe("d", 0), 0);
        Bounds.due("d on day 30", owe("d", 30), 30);
        Bounds.due("a", owe("a", 30), 7);
        Bounds.due("b", owe("b", 30), 11);
    }

    private static void numbersOfDigits() {
        Bounds.sentence("NUMBER (1 to 4 digits)");
        Bounds.sentence("a NUMBER of more than 4 digits");
        String digits = "";
        for (int n = 1; n <= 12; n++) {
            digits += "9";
            Bounds.due(n + " digits", text("owe " + digits), n <= 4 ? 0 : -104);
            Bounds.due(n + " digits, later on", text("owe 1 + " + digits), n <= 4 ? 0 : -108);
            Bounds.due(n + " noughts", text("owe " + "0".repeat(n)), n <= 4 ? 0 : -104);
        }
        for (char c = '0'; c <= '9'; c++) {
            Bounds.due("digit " + c, owe("" + c, 0), c - '0');
            Bounds.due("digits 00" + c, owe("00" + c, 0), c - '0');
        }
        Bounds.due("0000", owe("0000", 0), 0);
        Bounds.due("0999", owe("0999", 0), 999);
        Bounds.due("9999", owe("9999 - 9998", 0), 1);
        Bounds.due("1000", owe("1000 - 999", 0), 1);
        Bounds.due("NUMBERS behind one another", text("owe 1234 5"), -109);
    }

    private static void signsByThemselves() {
        Bounds.sentence("A word is a row of letters a .. z, or of digits, as long as it goes; any other byte is a sign by itself.");
        for (int b = 0; b < 256; b++) {
            char c = (char) b;
            boolean digit = c >= '0' && c <= '9';
            boolean between = SIGNS_BETWEEN.indexOf(c) >= 0;
            Bounds.due("1, byte " + b + ", 2", text("owe 1" + c + "2"), digit || between ? 0 : c == ' ' ? -106 : -105);
            Bounds.due("1, byte " + b, text("owe 1" + c), digit || c == ' ' ? 0 : between ? -106 : -105);
            boolean piece = digit || "abd".indexOf(c) >= 0;
            boolean open = "!( ".indexOf(c) >= 0;
            Bounds.due("byte " + b, text("owe " + c), piece ? 0 : open ? -105 : -104);
            Bounds.due("byte " + b + ", 1", text("owe " + c + "1"), startsWell(c));
        }
        Bounds.due("<= is two signs", text("owe 1<=2"), -106);
        Bounds.due("!= is two signs", text("owe 1!=2"), -105);
        Bounds.due("&& is two signs", text("owe 1&&2"), -106);
        Bounds.due("signs need no blanks", text("owe(!(d)+a)*b"), 0);
    }

    /** What "owe c1" answers. */
    private static int startsWell(char c) {
        if (c >= '0' && c <= '9' || c == ' ' || c == '!') {
            return 0;
        }
        if (c == '(') {
            return -106;
        }
        return "abd".indexOf(c) >= 0 ? -105 : -104;
    }

    private static void bytesAtTheEnds() {
        Bounds.sentence("FAULT: the first byte of the first word or sign with which no TEXT goes on");
        for (int b = 0; b < 256; b++) {
            char c = (char) b;
            boolean letter = c >= 'a' && c <= 'z';
            Bounds.due("byte " + b + " ahead of the KEY", text(c + "owe 1"), c == ' ' ? 0 : -100);
            int want = c == ' ' || c == '!' ? 0 : c == '(' ? -105 : letter ? -100 : -103;
            Bounds.due("byte " + b + " right behind the KEY", text("owe" + c + "1"), want);
            Bounds.due("byte " + b + " behind a bracket", text("owe (1)" + c), c == ' ' ? 0 : SIGNS_BETWEEN.indexOf(c) >= 0 ? -108 : -107);
        }
        Bounds.due("of two FAULTs the first", text("owe ? ?"), -104);
        Bounds.due("of two FAULTs the first", text("owe 1 + c 12345"), -108);
        Bounds.due("of two FAULTs the first", text("owe (1 + ) 12345"), -109);
        Bounds.due("the first byte of a long word", text("owe 1 + abcdef"), -108);
    }

    private static void blanks() {
        Bounds.sentence("Between words and signs, and at the ends, there may be blanks (byte 32)");
        for (int n = 0; n <= 18; n++) {
            String gap = " ".repeat(n);
            Bounds.due(n + " blanks", text(gap + "owe" + gap + "(" + gap + "1" + gap + ")" + gap), 0);
        }
        Bounds.due("byte 31 is none", text("owe\u001f1"), -103);
        Bounds.due("byte 33 is a sign", text("owe!1"), 0);
        Bounds.due("byte 9 is none", text("owe\t1"), -103);
        Bounds.due("byte 10 is none", text("owe 1\n"), -105);
        Bounds.due("byte 160 is none", text("owe\u00a01"), -103);
        Bounds.due("no blanks within a word", text("ow e 1"), -100);
        Bounds.due("no blanks within a NUMBER", text("owe 1 2"), -106);
    }

    private static void wordsThatNeedABlank() {
        Bounds.sentence("a word right behind another one needs one");
        Bounds.due("owe1", text("owe1"), -103);
        Bounds.due("owe 1", text("owe 1"), 0);
        Bounds.due("shame9", text("shame9"), -105);
        Bounds.due("forget0", text("forget0"), -106);
        Bounds.due("owe12345", text("owe12345"), -103);
        Bounds.due("1d", text("owe 1d"), -105);
        Bounds.due("d1", text("owe d1"), -105);
        Bounds.due("d 1", text("owe d 1"), -106);
        Bounds.due("1owe 1", text("1owe 1"), -100);
        Bounds.due("a sign between them will do", text("owe(1)"), 0);
    }

    private static void aTestAtMost() {
        Bounds.sentence("TEST: SUM [ (< | = | >) SUM ]");
        String tests = "<=>";
        for (int i = 0; i < 3; i++) {
            for (int j = 0; j < 3; j++) {
                String two = "owe 1" + tests.charAt(i) + "2" + tests.charAt(j) + "3";
                Bounds.due(two, text(two), -107);
                String apart = "owe 1" + tests.charAt(i) + "2&2" + tests.charAt(j) + "3";
                Bounds.due(apart, text(apart), 0);
                String within = "owe (1" + tests.charAt(i) + "2)" + tests.charAt(j) + "3";
                Bounds.due(within, text(within), 0);
            }
        }
        Bounds.due("none", owe("5", 0), 5);
    }

    private static void theLoosestFirst() {
        Bounds.sentence("E, the loosest first: OR: AND { | AND }; AND: TEST { & TEST }; TEST: SUM [ (< | = | >) SUM ]; SUM: TERM { (+ | -) TERM }; TERM: PIECE { (* | /) PIECE }");
        int[][] threes = {{7, 3, 2}, {0, 3, 2}, {7, 0, 2}, {7, 3, 0}, {0, 0, 1}, {1, 1, 1}, {2, 9, 4}, {5, 2, 5}};
        for (int[] v : threes) {
            for (char one : SIGNS_BETWEEN.toCharArray()) {
                for (char two : SIGNS_BETWEEN.toCharArray()) {
                    if (tightness(one) == 2 && tightness(two) == 2) {
                        continue;
                    }
                    boolean later = tightness(two) > tightness(one);
                    int want = later ? of(one, v[0], of(two, v[1], v[2])) : of(two, of(one, v[0], v[1]), v[2]);
                    // 100 and more, so that what is below 0 is not held.
                    String law = "" + v[0] + one + v[1] + two + v[2];
                    Bounds.due(law, owe("100+(" + law + ")", 0), 100 + want);
                }
            }
        }
        Bounds.due("! takes a PIECE alone", owe("!0+4", 0), 5);
        Bounds.due("! takes a PIECE alone", owe("3*!0", 0), 3);
        Bounds.due("! takes brackets", owe("!(0+4)", 0), 0);
    }

    private static int tightness(char sign) {
        return sign == '|' ? 0 : sign == '&' ? 1 : "<=>".indexOf(sign) >= 0 ? 2 : "+-".indexOf(sign) >= 0 ? 3 : 4;
    }

    private static int of(char sign, int left, int right) {
        boolean[] tests = {left != 0 || right != 0, left != 0 && right != 0, left < right, left == right, left > right};
        int[] sums = {left + right, left - right, left * right, right == 0 ? 0 : left / right};
        int at = SIGNS_BETWEEN.indexOf(sign);
        return at >= 5 ? sums[at - 5] : tests[at] ? 1 : 0;
    }

    private static void asManyAsThereAre() {
        Bounds.sentence("OR: AND { | AND }; AND: TEST { & TEST }");
        for (char sign : SIGNS_BETWEEN.toCharArray()) {
            int value = 1;
            String law = "1";
            for (int n = 1; n <= 45; n++) {
                law += sign + "1";
                value = of(sign, value, 1);
                boolean twoTests = tightness(sign) == 2 && n > 1;
                int want = twoTests ? -107 : Math.max(0, value);
                Bounds.due(n + " of " + sign, owe(law, 0), want);
            }
        }
    }

    private static void theEndTooSoon() {
        Bounds.sentence("the end (the place behind the last byte), if it comes too soon");
        String[] begun = {"owe", "owe ", "owe (", "owe !", "owe (1", "owe (1 ", "owe 1+", "owe 1-", "owe 1*", "owe 1/", "owe 1<",
            "owe 1=", "owe 1>", "owe 1&", "owe 1|", "owe 1|  ", "owe ((1)", "owe !(", "shame", "forget", "  owe  (  1  "};
        for (String text : begun) {
            Bounds.due(text, text(text), -100 - text.length());
        }
        Bounds.due("not too soon", text("owe 1"), 0);
        Bounds.due("empty brackets are no end", text("owe ()"), -105);
        Bounds.due("a bracket that is not open", text("owe 1)"), -105);
    }

    private static void theNinthBracket() {
        Bounds.sentence("the ninth ( that would be open within others");
        for (int n = 0; n <= 12; n++) {
            String open = "(".repeat(n) + "1" + ")".repeat(n);
            Bounds.due(n + " brackets", text("owe " + open), n <= 8 ? 0 : -112);
        }
        Bounds.due("ninth, in the midst", text("owe ((((((((1+(1)))))))))"), -114);
        Bounds.due("eight again behind eight", text("owe ((((((((1))))))))*((((((((1))))))))"), 0);
        Bounds.due("one closed, one open again", text("owe ((((((((1)+(1))))))))"), 0);
        Bounds.due("one closed, two open again", text("owe ((((((((1)+((1)))))))))"), -116);
        Bounds.due("many behind one another", text("owe (1)+(1)+(1)+(1)+(1)+(1)+(1)+(1)+(1)+(1)"), 0);
        Bounds.due("eight, and blanks", text("owe ( ( ( ( ( ( ( ( 1 ) ) ) ) ) ) ) )"), 0);
        Bounds.due("eight: their value", owe("((((((((d+1)*2)))))))", 3), 8);
    }

    private static void theNinthNot() {
        Bounds.sentence("the ninth ! likewise");
        for (int n = 0; n <= 12; n++) {
            Bounds.due(n + " !", text("owe " + "!".repeat(n) + "1"), n <= 8 ? 0 : -112);
            if (n <= 8) {
                Bounds.due(n + " !: their value", owe("!".repeat(n) + "1", 0), n % 2 == 0 ? 1 : 0);
                Bounds.due(n + " !: their value", owe("!".repeat(n) + "0", 0), n % 2);
            }
        }
        Bounds.due("eight again behind eight", text("owe !!!!!!!!1+!!!!!!!!1"), 0);
        Bounds.due("nine behind eight", text("owe !!!!!!!!1+!!!!!!!!!1"), -122);
        Bounds.due("many behind one another", text("owe !1+!1+!1+!1+!1+!1+!1+!1+!1+!1"), 0);
        Bounds.due("nine, with blanks", text("owe ! ! ! ! ! ! ! ! ! 1"), -120);
        Bounds.due("open through brackets", text("owe !!!!!!!!(!1)"), -113);
        Bounds.due("not open behind its PIECE", text("owe !!!!!!!!(1)+!1"), 0);
    }

    private static void eachByItself() {
        Bounds.sentence("each by itself");
        Bounds.due("eight of each", text("owe !!!!!!!!((((((((1))))))))"), 0);
        Bounds.due("eight of each, by turns", text("owe !(!(!(!(!(!(!(!(1))))))))"), 0);
        Bounds.due("the ninth ! of them", text("owe !(!(!(!(!(!(!(!(!1))))))))"), -120);
        Bounds.due("the ninth ( of them", text("owe !(!(!(!(!(!(!(!((1)))))))))"), -120);
        Bounds.due("the ninth ! ahead of the ninth (", text("owe !!!!!!!!!((((((((((1"), -112);
    }

    private static void intsWrap() {
        Bounds.sentence("Ints wrap");
        Bounds.due("the most and 1 is the least", owe(MOST_INT + "+1=" + LEAST_INT, 0), 1);
        Bounds.due("the least is below 0", owe(LEAST_INT + "<0", 0), 1);
        Bounds.due("the least less 1 is the most", owe(LEAST_INT + "-1>0", 0), 1);
        Bounds.due("the most twice is -2", owe(MOST_INT + "*2+5", 0), 3);
        Bounds.due("the most by itself is 1", owe(MOST_INT + "*" + MOST_INT, 0), 1);
        Bounds.due("4096*1024*1024 is 0", owe("4096*1024*1024+5", 0), 5);
        Bounds.due("9999 three times is -1027349969", owe("9999*9999*9999+1027*1000*1000+349*1000+969=0", 0), 1);
        Bounds.due("the least by -1 is the least", owe(LEAST_INT + "/(0-1)=" + LEAST_INT, 0), 1);
        Bounds.due("0 less the least is the least", owe("0-" + LEAST_INT + "<0", 0), 1);
        Bounds.due("the least < the most", owe(LEAST_INT + "<" + MOST_INT, 0), 1);
        Bounds.due("the most > the least", owe(MOST_INT + ">" + LEAST_INT, 0), 1);
    }

    private static void byZero() {
        Bounds.sentence("/ is 0 by 0");
        Bounds.due("5/0", owe("3+5/0", 0), 3);
        Bounds.due("0/0", owe("3+0/0", 0), 3);
        Bounds.due("-5/0", owe("3+(0-5)/0", 0), 3);
        Bounds.due("the least by 0", owe("3+" + LEAST_INT + "/0", 0), 3);
        Bounds.due("d/d on day 0", owe("3+d/d", 0), 3);
        Bounds.due("d/d on day 1", owe("3+d/d", 1), 4);
        Bounds.due("by -1", owe("7+5/(0-1)", 0), 2);
        Bounds.due("by 1", owe("5/1", 0), 5);
    }

    private static void cutTowardsZero() {
        Bounds.sentence("All numbers are whole; / cuts towards 0.");
        int[][] rows = {{7, 2}, {-7, 2}, {7, -2}, {-7, -2}, {1, 2}, {-1, 2}, {6, 2}, {-6, 2}, {8, 3}, {-8, 3}, {9, 3}, {-9, 3}};
        long[] want = {3, -3, -3, 3, 0, 0, 3, -3, 2, -2, 3, -3};
        for (int i = 0; i < rows.length; i++) {
            String law = "(0+" + rows[i][0] + ")/(0+" + rows[i][1] + ")+10";
            Bounds.due(law, owe(law.replace("+-", "-"), 0), want[i] + 10);
        }
    }

    private static void tests() {
        Bounds.sentence("tests, & | ! give 1 or 0");
        for (int left = 4; left <= 6; left++) {
            Bounds.due(left + "<5", owe(left + "<5", 0), left < 5 ? 1 : 0);
            Bounds.due(left + "=5", owe(left + "=5", 0), left == 5 ? 1 : 0);
            Bounds.due(left + ">5", owe(left + ">5", 0), left > 5 ? 1 : 0);
        }
        for (int left = -1; left <= 1; left++) {
            String v = "(1-" + (1 - left) + ")";
            Bounds.due(v + "<0", owe(v + "<0", 0), left < 0 ? 1 : 0);
            Bounds.due(v + "=0", owe(v + "=0", 0), left == 0 ? 1 : 0);
            Bounds.due(v + ">0", owe(v + ">0", 0), left > 0 ? 1 : 0);
        }
    }

    private static void whatIsTrue() {
        Bounds.sentence("what is not 0 is true; both sides are worked out");
        String[] values = {"0", "1", "2", "4", "(0-1)", LEAST_INT, MOST_INT};
        for (int i = 0; i < values.length; i++) {
            Bounds.due("!" + values[i], owe("!(" + values[i] + ")", 0), i == 0 ? 1 : 0);
            for (int j = 0; j < values.length; j++) {
                Bounds.due(values[i] + "&" + values[j], owe(values[i] + "&" + values[j], 0), i > 0 && j > 0 ? 1 : 0);
                Bounds.due(values[i] + "|" + values[j], owe(values[i] + "|" + values[j], 0), i > 0 || j > 0 ? 1 : 0);
            }
        }
        Bounds.due("a side that is by 0", owe("1|1/0", 0), 1);
        Bounds.due("a side that is by 0", owe("0&1/0", 0), 0);
    }

    private static void toldLast() {
        Bounds.sentence("Of a KEY that TEXT counts that was told last.");
        FineSlot x = new FineSlot();
        x.rule(0, 50, 0, 1);
        Bounds.due("none", x.owes(0, 0), 50);
        for (int i = 0; i < 14; i++) {
            Bounds.text(x, "owe " + (100 + i));
            Bounds.due("the last", x.owes(0, 0), 100 + i);
            Bounds.due("why", x.why(0), i);
        }
        Bounds.text(x, "owe 200");
        Bounds.due("not the fifteenth", x.owes(0, 0), 113);
        Bounds.text(x, "owe 200 ?");
        Bounds.due("not one with a FAULT", x.owes(0, 0), 113);
        x.set(0, 0, 51);
        Bounds.due("not a", x.owes(0, 0), 113);
    }

    private static void tellingATest() {
        Bounds.sentence("Of a TEXT: what 0 KEY (0 owe, 1 shame, 2 forget), 1 how many NUMBERS and NAMES it has. BAD.");
        Bounds.numbers("textTold KEY", 4, (x, v) -> x.textTold(v, 0));
        Bounds.numbers("textTold how many", 4, (x, v) -> x.textTold(v, 1));
        Bounds.outside("what", 0, 1, Bounds::rich, (x, v) -> x.textTold(0, v), BAD);
        Bounds.outside("what", 0, 1, Bounds::full, (x, v) -> x.textTold(13, v), BAD);
        Bounds.refused("textTold changes nothing", Bounds::rich, x -> x.textTold(0, 0), 1);
        Bounds.refused("textTold changes nothing", Bounds::rich, x -> x.textTold(2, 1), 3);
        for (int n = 1; n <= 46; n++) {
            FineSlot x = new FineSlot();
            Bounds.text(x, "owe " + "d+".repeat(n - 1) + "7");
            Bounds.due(n + " of them", x.textTold(0, 1), n);
        }
        FineSlot x = new FineSlot();
        Bounds.text(x, "shame !!(o)");
        Bounds.text(x, "forget 1234");
        Bounds.due("brackets and signs are none", x.textTold(0, 1), 1);
        Bounds.due("digits are one", x.textTold(1, 1), 1);
        Bounds.due("shame", x.textTold(0, 0), 1);
        Bounds.due("forget", x.textTold(1, 0), 2);
    }

    private static void why() {
        Bounds.sentence("The TEXT that counts for a KEY. BAD; NONE.");
        Bounds.outside("key", 0, 2, Bounds::bare, (x, v) -> x.why(v), BAD);
        Bounds.outside("key", 0, 2, Bounds::rich, (x, v) -> x.why(v), BAD);
        Bounds.outside("key", 0, 2, Bounds::full, (x, v) -> x.why(v), BAD);
        long[] ofRich = {2, 0, NONE};
        long[] ofFull = {13, 0, 1};
        for (int key = 0; key < 3; key++) {
            int k = key;
            Bounds.refused("none", Bounds::bare, x -> x.why(k), NONE);
            Bounds.refused("why", Bounds::rich, x -> x.why(k), ofRich[k]);
            Bounds.refused("why", Bounds::full, x -> x.why(k), ofFull[k]);
        }
    }
}
