/** For each promise: ordinary inputs, the edges that the document names, and wrong inputs. */
public final class PromiseTest {
    private static final int BAD = FineSlot.BAD, NO = FineSlot.NO, FULL = FineSlot.FULL, NONE = FineSlot.NONE;
    private static final int NOTHING = FineSlot.NOTHING, KIND = FineSlot.KIND, INDEX = FineSlot.INDEX, SIZE = FineSlot.SIZE;
    private static final int LOW = Integer.MIN_VALUE, HIGH = Integer.MAX_VALUE;

    private static int promise = 0;
    private static int wrong = 0;
    private static FineSlot x;

    private static void promise(int n) {
        promise = n;
        x = new FineSlot();
    }

    private static void due(String call, long got, long want) {
        if (got != want) {
            wrong++;
            System.out.println("promise " + promise + ": " + call + " answered " + got + ", due is " + want);
        }
    }

    /** Each of these answers is due, in their order. */
    private static void all(String calls, long want, long... got) {
        for (int i = 0; i < got.length; i++) {
            due(calls + " [" + i + "]", got[i], want);
        }
    }

    private static int text(String text) {
        feed(text);
        return x.text();
    }

    private static void feed(String text) {
        x.trim(0);
        for (int i = 0; i < text.length(); i += 12) {
            x.feed(four(text, i), four(text, i + 4), four(text, i + 8));
        }
        x.trim(text.length());
    }

    private static int four(String text, int from) {
        int v = 0;
        for (int i = from; i < from + 4; i++) {
            v = v << 8 | (i < text.length() ? text.charAt(i) : ' ');
        }
        return v;
    }

    /** What a law makes of owe, for a rule with a 7, b 11, on a day; told by its OWES, so within 0 .. 999. */
    private static int owe(String law, int day) {
        x = new FineSlot();
        x.rule(0, 7, 11, 1);
        int answer = text("owe " + law);
        return answer < 0 ? answer : x.owes(0, day);
    }

    public static void main(String[] args) {
        sorts();
        rules();
        owing();
        forces();
        readers();
        draws();
        library();
        searches();
        tapes();
        laws();
        faults();
        lawsThatCount();
        sheets();
        learning();
        copying();
        slots();
        rows();
        images();
        counts();
        System.out.println(wrong == 0 ? "all promises hold" : wrong + " answers are not as due");
        if (wrong != 0) {
            System.exit(1);
        }
    }

    private static void sorts() {
        promise(1);
        all("count 0, 1, 4, 5, 6", 0, x.count(0), x.count(1), x.count(4), x.count(5), x.count(6));
        all("count 2, 3", NONE, x.count(2), x.count(3));
        due("z", x.count(7), 1);
        due("sortTold(0, 0)", x.sortTold(0, 0), BAD);
        due("back", x.back(), NO);
        due("mark", x.mark(0, 0, 0), NOTHING);
        due("rest", x.rest(0, 1), NOTHING);

        promise(2);
        due("least", x.sort(0, 0, 0), 0);
        due("most", x.sort(99, 100, 99), 1);
        all("sort", BAD, x.sort(-1, 0, 0), x.sort(100, 0, 0), x.sort(0, -1, 0), x.sort(0, 101, 0), x.sort(0, 0, -1), x.sort(0, 0, 100));
        for (int i = 2; i < 6; i++) {
            due("sort", x.sort(1, 1, 1), i);
        }
        due("the seventh", x.sort(1, 1, 1), FULL);
        due("the seventh, wrong", x.sort(1, 1, 100), BAD);

        promise(3);
        x.sort(1, 2, 3);
        long[] first = {1, 2, 3, 0, 9999, 0, 500};
        for (int what = 0; what < 7; what++) {
            due("sortTold " + what, x.sortTold(0, what), first[what]);
        }
        all("sortTold", BAD, x.sortTold(1, 0), x.sortTold(-1, 0), x.sortTold(0, 7), x.sortTold(0, -1), x.sortTold(HIGH, LOW));

        promise(4);
        x.sort(1, 2, 3);
        x.sort(4, 5, 6);
        int[] most = {99, 100, 99, 9, 9999, 99, 9999};
        for (int what = 0; what < 7; what++) {
            due("change to most", x.change(0, what, most[what]), first[what]);
            due("change to 0", x.change(0, what, 0), most[what]);
            all("change", BAD, x.change(0, what, most[what] + 1), x.change(0, what, -1), x.change(2, what, 0));
            due("what it is", x.sortTold(0, what), 0);
        }
        all("change", BAD, x.change(0, 7, 0), x.change(0, -1, 0), x.change(-1, 0, 0));
        due("the other sort", x.sortTold(1, 2), 6);

        promise(5);
        all("deal", BAD, x.deal(0), x.deal(7), x.deal(-1));
        due("z", x.count(7), 1);
        due("deal(2)", x.deal(2), 2);
        int z = 1;
        int[] by = {100, 101, 100, 10, 20};
        int[] what = {0, 1, 2, 3, 5};
        for (int i = 0; i < 10; i++) {
            z = z * 1103515245 + 12345;
            due("drawn " + i, x.sortTold(i / 5, what[i % 5]), (z >>> 8) % by[i % 5]);
        }
        due("z", x.count(7), z);
        all("LIMIT", 9999, x.sortTold(0, 4), x.sortTold(1, 4));
        all("NEVER", 500, x.sortTold(0, 6), x.sortTold(1, 6));
        due("deal(1)", x.deal(1), 1);
        due("deal(6)", x.deal(6), 3);
        z = x.count(7);
        due("deal(6) again", x.deal(6), 0);
        due("z", x.count(7), z);
    }

    private static void rules() {
        promise(6);
        due("least", x.rule(0, 0, 0, 1), 0);
        due("most", x.rule(5, 99, 999, 30), 1);
        all("rule", BAD, x.rule(-1, 0, 0, 1), x.rule(6, 0, 0, 1), x.rule(0, -1, 0, 1), x.rule(0, 100, 0, 1));
        all("rule", BAD, x.rule(0, 0, -1, 1), x.rule(0, 0, 1000, 1), x.rule(0, 0, 0, 0), x.rule(0, 0, 0, 31));
        for (int i = 2; i < 8; i++) {
            due("rule", x.rule(0, 0, 0, 1), i);
        }
        due("the ninth", x.rule(0, 0, 0, 1), FULL);
        due("the ninth, wrong", x.rule(6, 0, 0, 1), BAD);

        promise(7);
        long[] worth = {7, 27, 20, 24, 23, 1};
        for (int kind = 0; kind < 6; kind++) {
            x.rule(kind, 7, 20, 3);
            due("kind", x.told(kind, 0), kind);
            due("a", x.told(kind, 1), 7);
            due("b", x.told(kind, 2), 20);
            due("c", x.told(kind, 3), 3);
            due("worth of " + kind, x.told(kind, 4), worth[kind]);
        }
        all("told", BAD, x.told(6, 0), x.told(-1, 0), x.told(0, 5), x.told(0, -1));
        x.rule(3, 0, 0, 30);
        due("worth below 0", x.told(6, 4), -30);

        promise(8);
        String[] above = {"0", "01", "02", "013", "024", "05"};
        for (int kind = 0; kind < 6; kind++) {
            x.rule(kind, 7, 20, 3);
            for (int k = 0; k < 6; k++) {
                due(kind + " as " + k, x.as(kind, k), above[kind].indexOf('0' + k) >= 0 ? 7 : KIND);
            }
        }
        all("as", BAD, x.as(6, 0), x.as(-1, 0), x.as(0, 6), x.as(0, -1));

        promise(9);
        x.rule(1, 7, 20, 3);
        due("turns", x.turns(0, 4), 1);
        due("turns to the same", x.turns(0, 4), 4);
        due("kind", x.told(0, 0), 4);
        due("worth", x.told(0, 4), 23);
        due("owes", x.owes(0, 2), 27);
        all("turns", BAD, x.turns(1, 0), x.turns(-1, 0), x.turns(0, 6), x.turns(0, -1));
        due("kind", x.told(0, 0), 4);

        promise(10);
        x.rule(1, 7, 20, 3);
        due("a", x.set(0, 0, 99), 7);
        due("b", x.set(0, 1, 999), 20);
        due("c", x.set(0, 2, 30), 3);
        all("set", BAD, x.set(0, 0, 100), x.set(0, 1, 1000), x.set(0, 2, 31), x.set(0, 2, 0), x.set(0, 0, -1), x.set(0, 1, -1));
        all("set", BAD, x.set(0, 3, 1), x.set(0, -1, 1), x.set(1, 0, 1), x.set(-1, 0, 1));
        due("a", x.set(0, 0, 0), 99);
        due("b", x.set(0, 1, 0), 999);
        due("c", x.set(0, 2, 1), 30);
    }

    private static void owing() {
        promise(11);
        for (int kind = 0; kind < 6; kind++) {
            x.rule(kind, 7, 20, 3);
        }
        long[][] owes = {{7, 7, 7, 7}, {0, 7, 21, 210}, {27, 27, 27, 27}, {0, 7, 20, 20}, {0, 27, 0, 0}, {0, 0, 0, 0}};
        int[] days = {0, 1, 3, 30};
        for (int kind = 0; kind < 6; kind++) {
            for (int i = 0; i < 4; i++) {
                due("owes " + kind + " on " + days[i], x.owes(kind, days[i]), owes[kind][i]);
            }
        }
        all("owes", BAD, x.owes(6, 0), x.owes(-1, 0), x.owes(0, -1), x.owes(0, 31));
        due("a law", text("owe 5000"), 0);
        due("held below 999", x.owes(0, 1), 999);
        due("held, then by days", x.owes(1, 30), 29970);
        due("held, and b", x.owes(2, 30), 1019);
        due("b at most", x.owes(3, 30), 20);
        due("not the third day", x.owes(4, 4), 1019);
        due("the third day", x.owes(4, 6), 0);
        due("pardon", x.owes(5, 6), 0);
        due("another law", text("owe d - 3"), 1);
        due("held above 0", x.owes(0, 1), 0);
        due("by the day", x.owes(0, 8), 5);
        due("by the day, daily", x.owes(1, 8), 40);
    }

    private static void forces() {
        promise(12);
        due("force(0)", x.force(0), BAD);
        x.rule(2, 1, 2, 3);
        x.rule(2, 9, 9, 3);
        x.sort(1, 0, 0);
        due("reader", x.reader(0, 0, 1), 0);
        due("force(0)", x.force(0), NONE);
        due("reader", x.reader(0, 0, 1), 3);
        due("force(1)", x.force(1), 0);
        due("reader", x.reader(0, 0, 1), 18);
        all("force", BAD, x.force(2), x.force(-1));
        due("force(NONE)", x.force(NONE), 1);
        due("force(NONE)", x.force(NONE), NONE);
        due("reader", x.reader(0, 0, 1), 0);

        promise(13);
        x.sort(1, 51, 0);
        due("card(0)", x.card(0), NONE);
        due("card(30)", x.card(30), 0);
        all("card", BAD, x.card(31), x.card(-1));
        due("F ahead of it", x.reader(0, 29, 0), 51);
        due("F, half and cut", x.reader(0, 30, 0), 25);
        due("card(NONE)", x.card(NONE), 30);
        due("card(NONE)", x.card(NONE), NONE);
        due("F", x.reader(0, 30, 0), 51);
    }

    private static void readers() {
        promise(14);
        x.sort(3, 25, 10);
        x.rule(1, 4, 0, 1);
        x.force(0);
        x.change(0, 3, 5);
        x.change(0, 5, 2);
        x.change(0, 6, 300);
        // Day 30: o 120, BRINGING 10 + 120 + 60, KEEPING 300 - 2; day 29: o 116, BRINGING 10 + 116 + 58.
        due("BRINGING 30", x.reader(0, 30, 1), 190);
        due("KEEPING 30", x.reader(0, 30, 2), 298);
        due("COST 30", x.reader(0, 30, 3), (25 * 298 + 75 * 190) / 100);
        due("KEEPING 29", x.reader(0, 29, 2), 215);
        due("COST 29", x.reader(0, 29, 3), (25 * 215 + 75 * 184) / 100);
        all("brings", 1, x.reader(0, 29, 4), x.reader(0, 30, 4));
        due("F", x.reader(0, 30, 0), 25);
        due("BROUGHT", x.reader(0, 0, 5), 750000);
        due("OUT", x.reader(0, 0, 6), 250000);
        due("BROUGHT 1", x.reader(0, 1, 5), 187500);
        due("OUT 1", x.reader(0, 1, 6), 62500);
        due("BROUGHT 2", x.reader(0, 2, 5), 46875);
        due("BROUGHT 3", x.reader(0, 3, 5), 11718);
        due("OUT 3", x.reader(0, 3, 6), 3907);
        x.change(0, 4, 0);
        due("above LIMIT", x.reader(0, 1, 4), 0);
        due("not above LIMIT", x.reader(0, 0, 4), 1);
        due("BROUGHT above LIMIT", x.reader(0, 1, 5), 0);
        due("OUT above LIMIT", x.reader(0, 30, 6), 250000);
        x.change(0, 5, 99);
        due("KEEPING below 0", x.reader(0, 0, 2), 300 - 99 * 31);
        all("reader", BAD, x.reader(1, 0, 0), x.reader(-1, 0, 0), x.reader(0, 31, 0), x.reader(0, -1, 0), x.reader(0, 0, 7), x.reader(0, 0, -1));
        x = new FineSlot();
        x.sort(1, 0, 50);
        x.change(0, 6, 50);
        due("as dear: he brings", x.reader(0, 30, 4), 1);
        x.change(0, 2, 51);
        due("dearer: he keeps", x.reader(0, 30, 4), 0);
        x.change(0, 1, 100);
        due("who forgets all brings none", x.reader(0, 0, 6), 1000000);
        x = new FineSlot();
        x.sort(1, 33, 0);
        x.change(0, 5, 1);
        x.change(0, 6, 0);
        due("cut towards 0", x.reader(0, 30, 3), -1);
        x.change(0, 2, 1);
        x.change(0, 6, 4);
        due("KEEPING 3, BRINGING 1: 1.66", x.reader(0, 30, 3), 1);

        promise(15);
        due("first(0, 0)", x.first(0, 0), BAD);
        x.sort(1, 29, 10);
        x.rule(1, 10, 0, 1);
        x.force(0);
        x.change(0, 4, 35);
        due("above LIMIT", x.first(0, 1), 4);
        x.change(0, 4, 40);
        due("LIMIT itself is not above it", x.first(0, 1), 5);
        due("brings", x.first(0, 0), 0);
        due("OUT", x.first(0, 2), 0);
        x.change(0, 1, 50);
        due("OUT is 500000", x.first(0, 2), 0);
        x.change(0, 1, 51);
        due("OUT is 510000", x.first(0, 2), 1);
        x.change(0, 1, 95);
        due("never half", x.first(0, 2), NONE);
        x.change(0, 4, 9999);
        due("never above LIMIT", x.first(0, 1), NONE);
        x.change(0, 6, 0);
        due("never brings", x.first(0, 0), NONE);
        x.change(0, 2, 0);
        x.turns(0, 4);
        x.set(0, 2, 7);
        x.change(0, 5, 0);
        due("on the free day", x.first(0, 0), 0);
        all("first", BAD, x.first(1, 0), x.first(-1, 0), x.first(0, 3), x.first(0, -1));
    }

    private static int z;

    private static int draw(int by) {
        z = z * 1103515245 + 12345;
        return (z >>> 8) % by;
    }

    private static void draws() {
        promise(16);
        all("run", BAD, x.run(0), x.run(-1));
        x.sort(1, 60, 5);
        x.seed(99);
        z = 99;
        for (int i = 0; i < 20; i++) {
            int day = 0;
            while (draw(100) < 60) {
                day++;
            }
            due("run", x.run(0), day);
            due("z", x.count(7), z);
        }
        x.change(0, 1, 100);
        due("run", x.run(0), NONE);
        for (int i = 0; i < 31; i++) {
            draw(100);
        }
        due("z behind 31 draws", x.count(7), z);
        x.change(0, 1, 0);
        due("who forgets nothing", x.run(0), 0);

        promise(17);
        due("no sorts", x.year(), 0);
        x.sort(30, 50, 5);
        x.sort(20, 90, 5);
        x.sort(5, 0, 99);
        x.change(2, 6, 0);
        x.seed(4);
        z = 4;
        int brought = 0;
        for (int i = 0; i < 50; i++) {
            int day = 0;
            while (day < 31 && draw(100) < (i < 30 ? 50 : 90)) {
                day++;
            }
            brought += day < 31 ? 1 : 0;
        }
        for (int i = 0; i < 5 * 31; i++) {
            draw(100);
        }
        due("year", x.year(), brought);
        due("z", x.count(7), z);

        promise(18);
        due("seed", x.seed(-5), 1);
        due("seed", x.seed(LOW), -5);
        due("seed", x.seed(0), LOW);
        due("z", x.count(7), 0);
    }

    private static void library() {
        promise(19);
        all("no sorts", 0, x.library(0), x.library(1), x.library(2), x.library(3));
        all("library", BAD, x.library(4), x.library(-1));
        x.sort(99, 100, 0);
        x.sort(98, 0, 0);
        x.sort(2, 99, 99);
        x.change(2, 6, 0);
        due("DAYS", x.library(0), 101L * 31 * 1000000);
        due("LOST", x.library(2), 101L * 1000000);
        due("CARDS without a card", x.library(3), 0);
        x.card(0);
        due("CARDS, day 0", x.library(3), 199L * 1000000);
        x.card(1);
        due("CARDS, day 1", x.library(3), 101L * 1000000);
        x.card(NONE);
        x.rule(0, 3, 0, 1);
        x.force(0);
        due("COIN", x.library(1), 98L * 1000000 * 3);
        x.change(1, 1, 50);
        long days = 0;
        long out = 1000000;
        long coin = 0;
        for (int d = 0; d < 31; d++) {
            coin += out * 50 / 100 * 3;
            out -= out * 50 / 100;
            days += out;
        }
        due("DAYS", x.library(0), 101L * 31 * 1000000 + 98 * days);
        due("COIN", x.library(1), 98 * coin);
        due("LOST", x.library(2), 101L * 1000000 + 98 * out);
        x = new FineSlot();
        x.sort(2, 0, 0);
        x.rule(0, 0, 0, 1);
        x.force(0);
        x.change(0, 4, 8);
        text("owe 9 * (d < 30)");
        due("all on the last day: DAYS", x.library(0), 2L * 30 * 1000000);
        due("all on the last day: LOST", x.library(2), 0);
        x.card(30);
        due("all on the last day: CARDS", x.library(3), 2L * 1000000);
    }

    private static void searches() {
        promise(20);
        due("no rule", x.find(), NO);
        x.rule(0, 50, 0, 1);
        x.force(0);
        due("no sorts", x.find(), 0);
        x.sort(1, 0, 0);
        due("all bring on day 0", x.find(), 0);
        text("owe (20 - a) * (20 > a)");
        x.change(0, 4, 4);
        due("from 16 on nobody stays away", x.find(), 16);
        due("a stays", x.told(0, 1), 50);
        text("owe 41 - a");
        x.change(0, 4, 0);
        due("41 is not looked at", x.find(), 0);
        text("owe 40 - a");
        due("40 is looked at", x.find(), 40);
        x.force(NONE);
        due("none in force", x.find(), NO);

        promise(21);
        due("no sort", x.edge(0), BAD);
        x.sort(1, 0, 0);
        due("no rule", x.edge(0), NO);
        all("edge", BAD, x.edge(-1), x.edge(1));
        x.rule(0, 50, 0, 1);
        x.force(0);
        x.change(0, 4, 98);
        due("the last a", x.edge(0), 99);
        x.change(0, 4, 99);
        due("no a", x.edge(0), NONE);
        x.change(0, 4, 0);
        due("the first a", x.edge(0), 1);
        due("a stays", x.told(0, 1), 50);
        x.change(0, 1, 100);
        due("who is lost in any case", x.edge(0), NONE);
        x.change(0, 1, 0);
        x.change(0, 0, 0);
        due("MANY does not count", x.edge(0), 1);
        x.set(0, 1, 999);
        x.change(0, 4, 9999);
        x.change(0, 6, 1010);
        x.turns(0, 2);
        due("dearer than keeping", x.edge(0), 12);
        text("owe 9 * (d < 30) + a * (d = 30)");
        x.turns(0, 0);
        x.change(0, 4, 8);
        due("who comes on the last day", x.edge(0), 9);

        promise(22);
        due("no sorts", x.write(), NONE);
        x.sort(1, 0, 0);
        due("who forgets nothing", x.write(), NONE);
        x.change(0, 1, 50);
        due("the first day", x.write(), 0);
        x.card(7);
        due("the card that is does not count", x.write(), 0);
        due("it stays", x.count(3), 7);
        x.change(0, 1, 100);
        x.rule(0, 5, 0, 1);
        x.force(0);
        text("owe 9 * (d < 12)");
        x.change(0, 4, 8);
        due("of several the least", x.write(), 0);
        text("forget f");
        due("a law heeds no card", x.write(), NONE);

        promise(23);
        due("no rules", x.least(), NONE);
        x.rule(0, 5, 0, 1);
        x.rule(0, 6, 0, 1);
        x.rule(0, 6, 0, 1);
        x.rule(0, 9, 0, 1);
        due("no sorts", x.least(), 0);
        x.sort(1, 50, 0);
        x.change(0, 4, 8);
        due("most coin, then the least", x.least(), 1);
        x.change(0, 4, 5);
        due("least days", x.least(), 0);
        due("none is in force", x.count(2), NONE);
        x.change(0, 4, 9);
        due("most coin", x.least(), 3);
        x.change(0, 4, 0);
        due("all are lost", x.least(), 0);
    }

    private static void tapes() {
        promise(24);
        for (int i = 1; i <= 8; i++) {
            due("feed", x.feed(0, 0, 0), 12 * i);
        }
        due("feed", x.feed(0, 0, 0), FULL);
        due("bytes", x.count(6), 96);
        x.trim(85);
        due("feed", x.feed(0, 0, 0), FULL);
        due("bytes", x.count(6), 85);
        x.trim(84);
        due("feed", x.feed(0, 0, 0), 96);
        x.trim(0);
        due("feed", x.feed(0x6f776520, 0x31323334, 0x20202020), 12);
        due("the highest first", x.text(), 0);
        x.rule(1, 0, 0, 1);
        due("1234, held", x.owes(0, 1), 999);

        promise(25);
        due("trim(0)", x.trim(0), 0);
        all("trim", BAD, x.trim(1), x.trim(-1), x.trim(LOW), x.trim(HIGH));
        x.feed(0, 0, 0);
        due("trim(12)", x.trim(12), 12);
        due("trim(13)", x.trim(13), BAD);
        due("trim(5)", x.trim(5), 5);
        due("trim(6)", x.trim(6), BAD);
        due("bytes", x.count(6), 5);

        promise(26);
        due("no tape", x.text(), -100);
        for (int i = 0; i < 14; i++) {
            due("text", text("owe d"), i);
            due("used up", x.count(6), 0);
        }
        due("the fifteenth", text("owe d"), FULL);
        due("used up", x.count(6), 0);
        due("the fifteenth, with a fault", text("owe ?"), -104);
        due("used up", x.count(6), 0);
        due("texts", x.count(4), 14);
        due("the last one", x.textTold(13, 1), 1);
        due("none behind it", x.textTold(14, 1), BAD);
    }

    private static void laws() {
        promise(26);
        due("number", owe("12", 0), 12);
        due("0012", owe("0012", 0), 12);
        due("day", owe("d", 30), 30);
        due("a", owe("a", 0), 7);
        due("b", owe("b", 0), 11);
        due("times binds closer", owe("2+3*4", 0), 14);
        due("from the left", owe("20-5-3", 0), 12);
        due("from the left", owe("100/5*2", 0), 40);
        due("from the left", owe("100/7/2", 0), 7);
        due("brackets", owe("(2+3)*4", 0), 20);
        due("cut towards 0", owe("10+(0-7)/2", 0), 7);
        due("by 0", owe("5+7/(a-7)", 0), 5);
        due("<", owe("1<2", 0), 1);
        due("<", owe("2<2", 0), 0);
        due("=", owe("1+1=2", 0), 1);
        due("=", owe("1=2", 0), 0);
        due(">", owe("3>2", 0), 1);
        due(">", owe("2>2", 0), 0);
        due("&", owe("5&6", 0), 1);
        due("&", owe("5&0", 0), 0);
        due("|", owe("0|6", 0), 1);
        due("|", owe("0|0", 0), 0);
        due("& is closer than |", owe("1|0&0", 0), 1);
        due("sums are closer than tests", owe("5=2+3", 0), 1);
        due("sums are closer than tests", owe("1+1>5", 0), 0);
        due("tests are closer than &", owe("2>1&3>2", 0), 1);
        due("!", owe("!5", 0), 0);
        due("!!", owe("!!5", 0), 1);
        due("! takes a piece", owe("!0+4", 0), 5);
        due("!(..)", owe("!(3-3)*9", 0), 9);
        due("wraps", owe("9999*9999*9999*9999>0", 0), 9999 * 9999 * 9999 * 9999 > 0 ? 1 : 0);
        due("the least int by -1", owe("(0-2048)*1024*1024/(0-1)<0", 0), 1);
        due("blanks", owe("  ( d\u0020+ 1 )  ", 4), 5);
        due("eight ( and eight !", owe("!!!!!!!!((((((((3))))))))", 0), 1);
        due("many ( one behind the other", owe("(1)+(1)+(1)+(1)+(1)+(1)+(1)+(1)+(1)+(1)", 0), 10);
        due("many ! one behind the other", owe("!0+!0+!0+!0+!0+!0+!0+!0+!0+!0", 0), 10);
        x = new FineSlot();
        due("a bracket right behind the key", text("owe(3)"), 0);
        due("a ! right behind the key", text("shame!s"), 1);
        due("blanks ahead", text("   forget   d  "), 2);
    }

    private static void faults() {
        promise(26);
        x = new FineSlot();
        due("blanks alone", text("   "), -103);
        due("key alone", text("owe"), -103);
        due("key and blanks", text("owe  "), -105);
        due("no key", text(" ow 3"), -101);
        due("longer word", text("owed 3"), -100);
        due("longer word", text("owez 3"), -100);
        due("longer word", text("aowe 3"), -100);
        due("another word", text("awe 3"), -100);
        due("upper case", text("Owe 3"), -100);
        due("a number for a key", text("3 owe"), -100);
        due("a word that needs a blank", text("owe3"), -103);
        due("a word that needs a blank", text("owe 3d"), -105);
        due("two words", text("owe 3 d"), -106);
        due("five digits", text("owe 2+12345"), -106);
        due("five digits", text("owe 00001"), -104);
        due("no name of owe", text("owe f"), -104);
        due("no name of owe", text("owe c"), -104);
        due("no name of shame", text("shame d"), -106);
        due("no name of forget", text("forget o"), -107);
        due("two letters", text("owe dd"), -104);
        due("two tests", text("owe 1<2<3"), -107);
        due("two tests, in brackets", text("owe (1<2)<3"), 0);
        due("<=", text("owe 1<=2"), -106);
        due("no left side", text("owe *2"), -104);
        due("no - ahead", text("owe -2"), -104);
        due("no right side", text("owe 2+"), -106);
        due("no right side, blanks", text("owe 2+  "), -108);
        due("open", text("owe (2"), -106);
        due("empty brackets", text("owe ()"), -105);
        due("one too many", text("owe 2)"), -105);
        due("a byte above 127", text("owe 2\u00e4"), -105);
        due("byte 0", text("owe 2\u0000"), -105);
        due("a tab is no blank", text("owe\t2"), -103);
        due("the ninth (", text("owe (((((((((3)))))))))"), -112);
        due("the ninth !", text("owe !!!!!!!!!3"), -112);
        due("the ninth !, through brackets", text("owe !!!!!!!!(!3)"), -113);
        due("ends on a full tape", text("owe " + "1+".repeat(46)), -196);
        due("fits a full tape", text("owe " + "1+".repeat(45) + "10"), 1);
        due("numbers and names", x.textTold(1, 1), 46);
        due("texts", x.count(4), 2);
    }

    private static void lawsThatCount() {
        promise(27);
        text("owe 1 + a * d - (b < 12)");
        text("shame ! o");
        text("forget 7");
        due("owe", x.textTold(0, 0), 0);
        due("its leaves", x.textTold(0, 1), 5);
        due("shame", x.textTold(1, 0), 1);
        due("forget", x.textTold(2, 0), 2);
        all("one leaf", 1, x.textTold(1, 1), x.textTold(2, 1));
        all("textTold", BAD, x.textTold(3, 0), x.textTold(-1, 0), x.textTold(0, 2), x.textTold(0, -1));

        promise(28);
        all("why", NONE, x.why(0), x.why(1), x.why(2));
        all("why", BAD, x.why(3), x.why(-1));
        text("forget 7");
        text("owe 5");
        text("forget 120");
        text("shame 0 - 5");
        due("owe", x.why(0), 1);
        due("shame", x.why(1), 3);
        due("the last told", x.why(2), 2);
        text("forget 2 ?");
        due("not the one with a fault", x.why(2), 2);
        x.sort(1, 50, 4);
        due("F held below 100", x.reader(0, 0, 0), 100);
        due("shame held above 0", x.reader(0, 0, 1), 4);
        text("shame 9999 * 2 + o");
        due("shame held below 9999", x.reader(0, 0, 1), 10003);
        text("forget f - d * 2");
        due("F by f and d", x.reader(0, 3, 0), 44);
        due("F held above 0", x.reader(0, 30, 0), 0);
        x.rule(0, 1, 1, 1);
        x.force(0);
        x.change(0, 3, 3);
        text("shame o * 10 + s");
        due("shame by o and s", x.reader(0, 0, 1), 4 + 5 + 53);
    }

    private static void sheets() {
        promise(29);
        due("most", x.sheet(0, 0, 24), 24);
        due("least", x.sheet(3, 1, 0), 0);
        all("sheet", BAD, x.sheet(-1, 0, 1), x.sheet(4, 0, 1), x.sheet(0, 2, 1), x.sheet(0, -2, 1), x.sheet(0, 0, 25));
        all("sheet", SIZE, x.sheet(0, 0, -1), x.sheet(0, 1, LOW));
        all("BAD ahead of SIZE", BAD, x.sheet(0, 2, -1), x.sheet(4, 1, -1));
        x.mark(0, 5, 77);
        x.lay(0, 2, 0);
        due("refused ones changed nothing", x.item(0, 5), 77);
        x.sheet(0, 0, 6);
        x.lay(0, 2, 0);
        due("all 0", x.item(0, 5), 0);
        due("no such place", x.item(0, 6), INDEX);
        due("missing", x.sheet(0, -1, 99), 0);
        due("missing, n below 0", x.sheet(1, -1, -99), 0);
        due("it is missing", x.mark(0, 0, 0), NOTHING);

        promise(30);
        x.sheet(0, 0, 3);
        x.sheet(1, 1, 3);
        all("mark", 1, x.mark(0, 0, 40000), x.mark(0, 1, -65537), x.mark(0, 2, HIGH));
        all("mark", 1, x.mark(1, 0, 99999), x.mark(1, 1, -99999), x.mark(1, 2, NONE));
        all("mark", BAD, x.mark(4, 0, 0), x.mark(-1, 0, 0), x.mark(1, 0, 100000), x.mark(1, 0, -100000), x.mark(1, 0, LOW));
        all("mark", INDEX, x.mark(0, 3, 0), x.mark(0, -1, 0), x.mark(0, 3, NONE), x.mark(1, 3, 100000));
        all("mark", NOTHING, x.mark(2, 0, 0), x.mark(2, -1, NONE));
        due("NONE in shorts", x.mark(0, 0, NONE), KIND);
        x.lay(0, 2, 0);
        x.lay(1, 2, 1);
        due("16 bits", x.item(0, 0), -25536);
        all("16 bits", -1, x.item(0, 1), x.item(0, 2));
        due("floats", x.item(1, 0), 99999);
        due("floats", x.item(1, 1), -99999);
        due("NO NUMBER", x.item(1, 2), KIND);
    }

    private static void learning() {
        promise(31);
        x.sheet(0, 1, 24);
        due("no sorts", x.learn(0), NONE);
        all("learn", BAD, x.learn(-1), x.learn(4));
        due("learn", x.learn(1), NOTHING);
        x.sort(1, 0, 5);
        x.sort(1, 50, 5);
        x.sort(1, 50, 5);
        x.sort(1, 100, 5);
        due("all 0: nobody brings", x.learn(0), 3);
        x.mark(0, 0, 49);
        x.mark(0, 1, 26);
        x.mark(0, 2, 12);
        due("of several the least", x.learn(0), 1);
        x.mark(0, 0, 100);
        x.mark(0, 1, 0);
        x.mark(0, 2, 0);
        due("all on day 0", x.learn(0), 0);
        for (int k = 0; k < 24; k++) {
            x.mark(0, k, NONE);
        }
        due("no numbers", x.learn(0), 0);
        x.mark(0, 5, -3);
        due("signs left out, cut: 3, 4, 4, 3", x.learn(0), 0);
        x.mark(0, 5, 1);
        due("15625 / 10000 is 1", x.learn(0), 1);
        x.sheet(0, 0, 0);
        due("no places", x.learn(0), 0);
        x.sheet(0, 0, 1);
        x.mark(0, 0, 99);
        x.change(1, 1, 1);
        due("1000000 / 10000 is 100", x.learn(0), 1);

        promise(32);
        x.sheet(0, 1, 24);
        x.rule(1, 2, 0, 1);
        for (int k = 0; k < 23; k++) {
            x.mark(0, k, 2 * k);
        }
        due("reads", x.reads(0, 0), 23);
        x.mark(0, 23, NONE);
        due("of numbers alone", x.reads(0, 0), NONE);
        x.mark(0, 4, 7);
        due("reads", x.reads(0, 0), 4);
        x.mark(0, 0, 1);
        due("the first place", x.reads(0, 0), 0);
        text("owe d = 4");
        x.turns(0, 0);
        x.sheet(0, 0, 4);
        due("by a law", x.reads(0, 0), NONE);
        x.sheet(0, 0, 5);
        due("by a law", x.reads(0, 0), 4);
        all("reads", BAD, x.reads(4, 0), x.reads(-1, 0), x.reads(0, 1), x.reads(0, -1), x.reads(1, 1));
        due("reads", x.reads(1, 0), NOTHING);
    }

    private static void copying() {
        promise(33);
        x.sheet(0, 0, 6);
        x.sheet(1, 0, 4);
        x.sheet(2, 1, 4);
        for (int k = 0; k < 6; k++) {
            x.mark(0, k, k + 1);
        }
        due("copy", x.copy(0, 2, 1, 1, 3), 3);
        x.lay(0, 2, 1);
        long[] row = {0, 3, 4, 5};
        for (int k = 0; k < 4; k++) {
            due("copied", x.item(0, k), row[k]);
        }
        due("within one", x.copy(0, 0, 0, 1, 5), 5);
        x.lay(0, 2, 0);
        long[] shifted = {1, 1, 2, 3, 4, 5};
        for (int k = 0; k < 6; k++) {
            due("as they were", x.item(0, k), shifted[k]);
        }
        due("none, at the end", x.copy(0, 6, 1, 4, 0), 0);
        all("copy", INDEX, x.copy(0, 7, 1, 0, 0), x.copy(0, 0, 1, 5, 0), x.copy(0, 0, 1, 0, 5), x.copy(0, 4, 1, 0, 3));
        all("copy", INDEX, x.copy(0, -1, 1, 0, 1), x.copy(0, 0, 1, -1, 1), x.copy(0, 0, 1, 0, -1), x.copy(0, 1, 1, 1, HIGH));
        all("copy", INDEX, x.copy(0, HIGH, 1, 0, 1), x.copy(0, 0, 1, HIGH, 1), x.copy(0, LOW, 1, LOW, LOW));
        all("copy", KIND, x.copy(0, 0, 2, 0, 1), x.copy(2, 9, 0, 9, 9));
        all("copy", NOTHING, x.copy(0, 0, 3, 0, 1), x.copy(3, 0, 2, 0, 1), x.copy(3, 9, 3, 9, 9));
        all("copy", BAD, x.copy(4, 0, 0, 0, 0), x.copy(0, 0, -1, 0, 0), x.copy(3, 0, 4, 0, 0));
        x.sheet(3, 1, 2);
        x.mark(2, 0, NONE);
        due("NO NUMBER goes along", x.copy(2, 0, 3, 1, 1), 1);
        x.lay(1, 2, 3);
        due("NO NUMBER", x.item(1, 1), KIND);
    }

    private static void slots() {
        promise(34);
        x.rule(1, 2, 3, 4);
        x.sheet(0, 0, 2);
        due("number", x.lay(0, 3, LOW), 0);
        due("sheet", x.lay(0, 2, 0), 3);
        due("rule", x.lay(0, 1, 0), 2);
        due("nothing", x.lay(0, 0, 77), 1);
        due("nothing", x.lay(4, 0, LOW), 0);
        all("lay", BAD, x.lay(-1, 0, 0), x.lay(5, 0, 0), x.lay(0, -1, 0), x.lay(0, 4, 0));
        all("lay", BAD, x.lay(0, 1, 1), x.lay(0, 1, -1), x.lay(0, 2, 4), x.lay(0, 2, -1));
        due("a missing sheet", x.lay(0, 2, 1), NOTHING);
        x.lay(0, 3, 12);
        x.lay(0, 2, 1);
        x.lay(0, 1, 9);
        due("refused ones changed nothing", x.rest(0, 7), 5);

        promise(35);
        x.rule(3, 7, 20, 3);
        x.sheet(0, 0, 2);
        due("ask", x.ask(0, 0), NOTHING);
        x.lay(0, 1, 0);
        x.turns(0, 5);
        x.set(0, 0, 50);
        all("as it was", 24, x.ask(0, 0), x.ask(0, 1), x.ask(0, 3));
        all("ask", KIND, x.ask(0, 2), x.ask(0, 4), x.ask(0, 5));
        all("ask", BAD, x.ask(0, 6), x.ask(0, -1), x.ask(5, 0), x.ask(-1, 0), x.ask(1, 6));
        x.lay(1, 3, 5);
        x.lay(2, 2, 0);
        all("no rule", KIND, x.ask(1, 0), x.ask(2, 0));

        promise(36);
        x.rule(3, 7, 20, 3);
        x.sheet(0, 1, 3);
        x.mark(0, 1, -5);
        x.mark(0, 2, NONE);
        due("item", x.item(0, 0), NOTHING);
        x.lay(0, 2, 0);
        x.mark(0, 1, 9);
        x.sheet(0, -1, 0);
        due("as it was", x.item(0, 1), -5);
        due("as it was", x.item(0, 0), 0);
        due("NO NUMBER", x.item(0, 2), KIND);
        all("item", INDEX, x.item(0, 3), x.item(0, -1), x.item(0, HIGH), x.item(0, LOW));
        all("item", BAD, x.item(5, 0), x.item(-1, 0));
        x.lay(1, 1, 0);
        x.lay(2, 3, 8);
        all("no sheet", KIND, x.item(1, 0), x.item(2, 99));

        promise(37);
        x.rule(3, 7, 20, 3);
        due("rest", x.rest(0, 0), NOTHING);
        x.lay(0, 3, -11);
        due("rest", x.rest(0, 4), -3);
        due("rest", x.rest(0, -4), -3);
        due("by 0", x.rest(0, 0), NO);
        x.lay(0, 3, LOW);
        due("the least by -1", x.rest(0, -1), 0);
        x.lay(1, 1, 0);
        all("no number", KIND, x.rest(1, 1), x.rest(1, 0));
        all("rest", BAD, x.rest(5, 1), x.rest(-1, 0));
    }

    private static void rows() {
        promise(38);
        for (int i = 1; i <= 60; i++) {
            due("tell", x.tell(-i), i);
        }
        due("tell", x.tell(0), FULL);
        due("waiting", x.count(5), 60);

        promise(39);
        x.tell(5);
        due("no image", x.check(1), NO);
        due("none wait", x.count(5), 0);
        x.keep();
        due("no sorts in it", x.check(1), NO);
        x.sort(1, 60, 5);
        x.sort(1, 100, 5);
        x.rule(1, 3, 0, 1);
        x.force(0);
        x.seed(5);
        due("the image has none yet", x.check(1), NO);
        x.keep();
        x.seed(6);
        x.change(0, 1, 0);
        x.force(NONE);
        x.sort(1, 1, 1);
        for (int n = 1; n <= 30; n++) {
            tellReaders(n);
            due("check", x.check(n), 0);
        }
        tellReaders(30);
        due("z stays", x.count(7), 6);
        due("BAD", x.check(31), BAD);
        due("none wait", x.count(5), 0);
        due("check", x.check(0), BAD);
        due("all missing", x.check(3), 1);
        tellReaders(3);
        due("one too many readers", x.check(2), 5);
        tellReaders(3);
        due("missing", x.check(4), 7);
        tellReaders(3);
        x.tell(0);
        due("one too many", x.check(3), 7);
        tellReaders(1);
        x.tell(-1);
        x.tell(1);
        due("wrong OWES of NONE", x.check(2), 4);
        tellReaders(1);
        x.tell(NONE);
        x.tell(0);
        due("wrong day", x.check(2), 3);
        tellReaders(1);
        x.tell(-1);
        due("half a reader", x.check(2), 4);
        x = new FineSlot();
        x.sort(1, 0, 5);
        x.rule(0, 3, 0, 1);
        x.force(0);
        text("owe 8");
        x.keep();
        text("owe 9");
        x.tell(0);
        x.tell(8);
        x.tell(0);
        x.tell(8);
        due("one sort, by the image's law", x.check(2), 0);
    }

    /** The readers of an image with z 5: sort 0 forgets 60, sort 1 all; three a day. */
    private static void tellReaders(int n) {
        z = 5;
        for (int i = 0; i < n; i++) {
            int day = 0;
            while (day < 31 && draw(100) < (i % 2 == 0 ? 60 : 100)) {
                day++;
            }
            x.tell(day < 31 ? day : -1);
            x.tell(day < 31 ? 3 * day : 0);
        }
    }

    private static void images() {
        promise(40);
        due("keep", x.keep(), 0);
        due("back", x.back(), 0);
        x.sort(1, 2, 3);
        x.sort(1, 2, 3);
        due("keep", x.keep(), 2);
        x.sort(1, 2, 3);
        due("keep anew", x.keep(), 3);
        due("back", x.back(), 3);

        promise(41);
        due("back", x.back(), NO);
        x.sort(1, 2, 3);
        x.rule(1, 4, 5, 6);
        x.force(0);
        x.card(9);
        text("owe 8");
        x.seed(77);
        x.sheet(0, 0, 2);
        x.lay(0, 3, 10);
        x.tell(1);
        x.feed(0, 0, 0);
        due("keep", x.keep(), 1);
        for (int again = 0; again < 2; again++) {
            x.change(0, 0, 50);
            x.sort(9, 9, 9);
            x.turns(0, 2);
            x.set(0, 0, 60);
            x.rule(2, 2, 2, 2);
            x.force(NONE);
            x.card(NONE);
            text("owe 9");
            text("forget 9");
            x.feed(0, 0, 0);
            x.seed(5);
            x.tell(2);
            x.lay(0, 3, 20 + again);
            x.sheet(0, 0, 5);
            due("back", x.back(), 1);
            due("sorts", x.count(0), 1);
            due("MANY", x.sortTold(0, 0), 1);
            due("rules", x.count(1), 1);
            due("kind", x.told(0, 0), 1);
            due("a", x.told(0, 1), 4);
            due("the rule", x.count(2), 0);
            due("the card", x.count(3), 9);
            due("texts", x.count(4), 1);
            due("owe", x.why(0), 0);
            due("forget", x.why(2), NONE);
            due("owes", x.owes(0, 1), 8);
            due("z", x.count(7), 77);
            due("waiting stays", x.count(5), 2 + again);
            due("tape stays", x.count(6), 12);
            due("slot stays", x.rest(0, 100), 20 + again);
            due("sheet stays", x.mark(0, 4, 0), 1);
        }
    }

    private static void counts() {
        promise(42);
        all("count", BAD, x.count(8), x.count(-1), x.count(HIGH), x.count(LOW));
        x.sort(1, 1, 1);
        x.rule(0, 0, 0, 1);
        x.rule(0, 0, 0, 1);
        x.rule(0, 0, 0, 1);
        x.force(1);
        x.card(4);
        for (int i = 0; i < 5; i++) {
            text("owe d");
        }
        for (int i = 0; i < 6; i++) {
            x.tell(i);
        }
        x.feed(1, 2, 3);
        x.trim(7);
        x.seed(8);
        long[] counts = {1, 3, 1, 4, 5, 6, 7, 8};
        for (int what = 0; what < 8; what++) {
            due("count " + what, x.count(what), counts[what]);
        }
    }
}
