/** The boundary sentences of THE LIBRARY in "2 A READER", of "3 FIND", and of promises 19 to 23. */
public final class LibraryBoundsTest {
    private static final int BAD = Bounds.BAD, NO = Bounds.NO, NONE = Bounds.NONE;
    private static final int MANY = 0, FORGETS = 1, SHAME = 3, LIMIT = 4, READS = 5, NEVER = 6;
    private static final int DAYS = 0, COIN = 1, LOST = 2, CARDS = 3;
    private static final long ALL = 1000000;

    public static void main(String[] args) {
        whatIsAsked();
        manyTimes();
        allDaysTogether();
        coinTogether();
        lostBehindTheLastDay();
        cardsAheadOfTheDay();
        beyondAnInt();
        findIsRefused();
        findWithinItsBounds();
        findOfSeveral();
        findBeyondAnInt();
        findAsTheyAre();
        edgeIsRefused();
        edgeWithinItsBounds();
        edgeIsMore();
        edgeAsTheyAre();
        writeOfSeveral();
        writeTheLastDay();
        writeNeedsNoRule();
        leastIsRefused();
        leastOfSeveral();
        leastBeyondAnInt();
        leastWithTheCard();
        Bounds.end();
    }

    /** One sort of readers who forget nothing, walk nowhere and pay nothing, and a rule in force. */
    private static FineSlot one(int many, String text) {
        FineSlot x = new FineSlot();
        x.sort(many, 0, 0);
        x.change(0, LIMIT, 0);
        x.rule(0, 0, 0, 1);
        x.force(0);
        if (!text.isEmpty()) {
            Bounds.text(x, text);
        }
        return x;
    }

    private static void whatIsAsked() {
        Bounds.sentence("Of THE LIBRARY: what 0 DAYS, 1 COIN, 2 LOST, 3 CARDS. BAD.");
        Bounds.sentence("(Where a long is told, BAD is it, too.)");
        Bounds.outside("what", 0, 3, Bounds::bare, (x, v) -> x.library(v), BAD);
        Bounds.outside("what", 0, 3, Bounds::rich, (x, v) -> x.library(v), BAD);
        Bounds.outside("what", 0, 3, Bounds::full, (x, v) -> x.library(v), BAD);
        for (int what = 0; what < 4; what++) {
            int w = what;
            Bounds.refused("no SORTS", Bounds::bare, x -> x.library(w), 0);
            Bounds.refused("library changes nothing", Bounds::full, x -> x.library(w) * 0, 0);
        }
    }

    private static void manyTimes() {
        Bounds.sentence("THE LIBRARY, over all SORTS, MANY times of each");
        for (int many : new int[] {0, 1, 2, 98, 99}) {
            FineSlot x = one(many, "owe 3");
            x.card(0);
            Bounds.due("DAYS of who keeps", x.library(DAYS), many * 31 * ALL);
            Bounds.due("COIN of who keeps", x.library(COIN), 0);
            Bounds.due("LOST of who keeps", x.library(LOST), many * ALL);
            Bounds.due("CARDS of who keeps", x.library(CARDS), many * ALL);
            x.change(0, LIMIT, 3);
            Bounds.due("DAYS of who brings", x.library(DAYS), 0);
            Bounds.due("COIN of who brings", x.library(COIN), many * 3 * ALL);
            Bounds.due("LOST of who brings", x.library(LOST), 0);
            Bounds.due("CARDS of who brings", x.library(CARDS), many * ALL);
        }
        FineSlot x = new FineSlot();
        long all = 0;
        for (int i = 0; i < 6; i++) {
            x.sort(10 + i, 100, 0);
            all += 10 + i;
            Bounds.due("over " + (i + 1), x.library(LOST), all * ALL);
            Bounds.due("over " + (i + 1), x.library(DAYS), all * 31 * ALL);
        }
    }

    private static void allDaysTogether() {
        Bounds.sentence("DAYS: OUT of all days 0 .. 30, together.");
        for (int day : new int[] {0, 1, 15, 29, 30}) {
            FineSlot x = one(2, "owe d < " + day);
            Bounds.due("all on day " + day, x.library(DAYS), 2 * day * ALL);
        }
        Bounds.due("never", one(2, "owe 1").library(DAYS), 2 * 31 * ALL);
        FineSlot x = one(1, "");
        x.change(0, FORGETS, 1);
        Bounds.due("10000, 100, and 1 on 29 days", x.library(DAYS), 10000 + 100 + 29);
    }

    private static void coinTogether() {
        Bounds.sentence("COIN: BROUGHT times OWES of all days, together.");
        for (int day : new int[] {0, 1, 15, 29, 30}) {
            FineSlot x = one(2, "forget 100 * (d < " + day + ")");
            Bounds.text(x, "owe d + 1");
            x.change(0, LIMIT, 99);
            Bounds.due("all on day " + day, x.library(COIN), 2 * (day + 1) * ALL);
        }
        FineSlot x = one(1, "owe d");
        x.change(0, LIMIT, 99);
        x.change(0, FORGETS, 1);
        Bounds.due("9900 on day 1, 99 on day 2", x.library(COIN), 9900 + 2 * 99);
    }

    private static void lostBehindTheLastDay() {
        Bounds.sentence("LOST: OUT behind day 30.");
        Bounds.due("all on the last day", one(1, "owe d < 30").library(LOST), 0);
        Bounds.due("none on the last day", one(1, "owe d < 31").library(LOST), ALL);
        FineSlot x = one(3, "");
        x.change(0, FORGETS, 1);
        Bounds.due("one of each", x.library(LOST), 3);
        x.change(0, FORGETS, 100);
        Bounds.due("all of each", x.library(LOST), 3 * ALL);
    }

    private static void cardsAheadOfTheDay() {
        Bounds.sentence("CARDS: OUT ahead of THE CARD's day (0 without one).");
        for (int day : new int[] {0, 1, 15, 29, 30}) {
            FineSlot x = one(2, "owe d < " + day);
            Bounds.due("without one", x.library(CARDS), 0);
            for (int card = 0; card <= 30; card++) {
                x.card(card);
                Bounds.due("all on day " + day + ", card " + card, x.library(CARDS), card <= day ? 2 * ALL : 0);
            }
            x.card(NONE);
            Bounds.due("without one again", x.library(CARDS), 0);
        }
    }

    private static void beyondAnInt() {
        Bounds.sentence("THE LIBRARY, over all SORTS, MANY times of each: DAYS");
        FineSlot x = new FineSlot();
        for (int i = 0; i < 6; i++) {
            x.sort(99, 100, 0);
        }
        Bounds.due("most DAYS", x.library(DAYS), 18414000000L);
        Bounds.due("most LOST", x.library(LOST), 594000000L);
        x.card(30);
        Bounds.due("most CARDS", x.library(CARDS), 594000000L);
        // On day 10 each owes 9990, and would lose 9999 later on.
        x.rule(1, 0, 0, 1);
        x.force(0);
        Bounds.text(x, "owe 999");
        Bounds.text(x, "forget 100 * (d < 10)");
        for (int i = 0; i < 6; i++) {
            x.change(i, NEVER, 9999);
        }
        Bounds.due("COIN", x.library(COIN), 5934060000000L);
    }

    private static void findIsRefused() {
        Bounds.sentence("FIND. NO: there is no RULE in force.");
        Bounds.refused("no RULES", Bounds::bare, x -> x.find(), NO);
        Bounds.refused("none in force", x -> x.rule(0, 0, 0, 1), x -> x.find(), NO);
        Bounds.refused("none in force any more", LibraryBoundsTest::richWithoutRule, x -> x.find(), NO);
        Bounds.sentence("(Nothing changes.)");
        Bounds.refused("find", Bounds::rich, x -> x.find() * 0, 0);
        Bounds.refused("find", Bounds::full, x -> x.find() * 0, 0);
        Bounds.refused("no SORTS: all a are as good", LibraryBoundsTest::ruleAlone, x -> x.find(), 0);
    }

    private static void richWithoutRule(FineSlot x) {
        Bounds.rich(x);
        x.force(NONE);
    }

    private static void ruleAlone(FineSlot x) {
        x.rule(1, 50, 20, 3);
        x.force(0);
    }

    private static void findWithinItsBounds() {
        Bounds.sentence("FIND: of a 0 .. 40 of THE RULE");
        for (int best = 0; best <= 40; best++) {
            Bounds.due("the best is " + best, one(1, "owe !(a = " + best + ")").find(), best);
        }
        Bounds.due("41 is not looked at", one(1, "owe !(a = 41)").find(), 0);
        Bounds.due("99 is not looked at", one(1, "owe a < 99").find(), 0);
        FineSlot x = one(1, "owe !(a = 41)");
        x.set(0, 0, 41);
        Bounds.due("nor where a is 41", x.find(), 0);
        Bounds.due("a stays", x.told(0, 1), 41);
    }

    private static void findOfSeveral() {
        Bounds.sentence("that with which DAYS are least; of several the least");
        Bounds.due("all are as good", one(1, "").find(), 0);
        Bounds.due("from 7 on", one(1, "owe a < 7").find(), 7);
        Bounds.due("7 and 9", one(1, "owe !(a = 7 | a = 9)").find(), 7);
        Bounds.due("39 and 40", one(1, "owe a < 39").find(), 39);
        Bounds.due("all are bad", one(1, "owe 1").find(), 0);
        FineSlot x = one(0, "owe a < 7");
        Bounds.due("MANY 0: all are as good", x.find(), 0);
        x.sort(1, 0, 0);
        x.change(1, LIMIT, 0);
        x.change(1, FORGETS, 50);
        Bounds.due("two SORTS", x.find(), 7);
        Bounds.text(x, "owe (30 - a) * (a < 30)");
        x.change(1, LIMIT, 5);
        Bounds.due("from 25 on", x.find(), 25);
    }

    private static void findBeyondAnInt() {
        Bounds.sentence("that with which DAYS are least");
        // 99 * 31 * 1000000 is below 0, if it is cut to an int.
        Bounds.due("99 who keep at a 0", one(99, "owe a < 1").find(), 1);
        FineSlot x = one(99, "owe !(a = 40)");
        x.sort(99, 100, 0);
        Bounds.due("beside 99 who keep in any case", x.find(), 40);
    }

    private static long daysWith(FineSlot x, int a) {
        x.set(x.count(2), 0, a);
        return x.library(DAYS);
    }

    private static void findAsTheyAre() {
        Bounds.sentence("(its KIND, b, c as they are)");
        for (int kind = 0; kind < 6; kind++) {
            FineSlot x = ofAKind(kind);
            int found = x.find();
            Bounds.due("a stays", x.told(1, 1), 77);
            int best = 0;
            long least = Long.MAX_VALUE;
            for (int a = 0; a <= 40; a++) {
                long days = daysWith(x, a);
                if (days < least) {
                    best = a;
                    least = days;
                }
            }
            Bounds.due("KIND " + kind, found, best);
        }
    }

    private static FineSlot ofAKind(int kind) {
        FineSlot x = new FineSlot();
        x.rule(5, 1, 1, 1);
        x.rule(kind, 77, 60, 4);
        x.force(1);
        x.sort(7, 30, 20);
        x.sort(9, 80, 5);
        x.change(0, SHAME, 3);
        x.change(0, READS, 9);
        x.change(0, LIMIT, 90);
        x.change(1, NEVER, 150);
        x.card(9);
        return x;
    }

    private static void edgeIsRefused() {
        Bounds.sentence("EDGE. BAD; NO: there is no RULE in force; NONE: with no a.");
        Bounds.numbers("edge", 0, (x, v) -> x.edge(v));
        Bounds.outside("BAD ahead of NO", 0, 2, LibraryBoundsTest::richWithoutRule, (x, v) -> x.edge(v), BAD);
        Bounds.refused("NO", LibraryBoundsTest::richWithoutRule, x -> x.edge(0), NO);
        Bounds.refused("NO", LibraryBoundsTest::richWithoutRule, x -> x.edge(2), NO);
        Bounds.refused("BAD, with nothing", Bounds::bare, x -> x.edge(0), BAD);
        Bounds.sentence("(Nothing changes.)");
        Bounds.refused("edge", Bounds::rich, x -> x.edge(1), NONE);
        Bounds.refused("edge", Bounds::full, x -> x.edge(5) * 0, 0);
    }

    private static void edgeWithinItsBounds() {
        Bounds.sentence("EDGE of a SORT: the least a 0 .. 99 of THE RULE");
        for (int limit : new int[] {0, 1, 50, 97, 98, 99, 100}) {
            FineSlot x = one(1, "");
            x.change(0, LIMIT, limit);
            x.set(0, 0, 60);
            Bounds.due("LIMIT " + limit, x.edge(0), limit < 99 ? limit + 1 : NONE);
            Bounds.due("a stays", x.told(0, 1), 60);
        }
        Bounds.due("99 alone", one(1, "owe a = 99").edge(0), 99);
        Bounds.due("98 and 99", one(1, "owe a > 97").edge(0), 98);
        Bounds.due("5 alone", one(1, "owe a = 5").edge(0), 5);
    }

    private static void edgeIsMore() {
        Bounds.sentence("with which its OUT behind day 30 is more than with a 0");
        Bounds.due("as much", one(1, "owe 1").edge(0), NONE);
        Bounds.due("less", one(1, "owe a = 0").edge(0), NONE);
        Bounds.due("more, on one of all days", one(1, "owe a > 3 & d < 31").edge(0), 4);
        Bounds.due("later, not more", one(1, "owe a > 3 & d < 30").edge(0), NONE);
        FineSlot x = one(0, "owe a > 3");
        Bounds.due("MANY 0", x.edge(0), 4);
        x.sort(1, 100, 0);
        Bounds.due("another SORT, all out in any case", x.edge(1), NONE);
        x.change(0, FORGETS, 99);
        Bounds.due("more than some", x.edge(0), 4);
        x.change(0, FORGETS, 100);
        Bounds.due("not more than all", x.edge(0), NONE);
    }

    private static void edgeAsTheyAre() {
        Bounds.sentence("the least a 0 .. 99 of THE RULE with which its OUT behind day 30 is more than with a 0");
        for (int kind = 0; kind < 6; kind++) {
            for (int sort = 0; sort < 2; sort++) {
                FineSlot x = ofAKind(kind);
                int edge = x.edge(sort);
                Bounds.due("a stays", x.told(1, 1), 77);
                x.set(1, 0, 0);
                int free = x.reader(sort, 30, 6);
                int a = 1;
                while (a < 100 && outWith(x, a, sort) <= free) {
                    a++;
                }
                Bounds.due("KIND " + kind + ", SORT " + sort, edge, a == 100 ? NONE : a);
            }
        }
    }

    private static int outWith(FineSlot x, int a, int sort) {
        x.set(1, 0, a);
        return x.reader(sort, 30, 6);
    }

    private static void writeOfSeveral() {
        Bounds.sentence("of several none, then the least");
        Bounds.refused("no SORTS", Bounds::bare, x -> x.write(), NONE);
        FineSlot x = new FineSlot();
        x.sort(5, 0, 0);
        Bounds.due("who forgets nothing", x.write(), NONE);
        x.change(0, FORGETS, 1);
        Bounds.due("a half of 1 is 0", x.write(), 0);
        x.change(0, FORGETS, 100);
        x.change(0, NEVER, 0);
        x.change(0, 2, 1);
        Bounds.due("who keeps", x.write(), NONE);
        x = new FineSlot();
        x.sort(5, 50, 0);
        x.rule(0, 0, 0, 1);
        x.force(0);
        x.change(0, LIMIT, 0);
        Bounds.text(x, "owe d < 30");
        Bounds.due("who brings on the last day alone: all days are as good", x.write(), 0);
        Bounds.text(x, "owe d < 31");
        Bounds.due("who never brings", x.write(), NONE);
        Bounds.text(x, "owe d < 30");
        x.change(0, MANY, 0);
        Bounds.due("MANY 0", x.write(), NONE);
    }

    private static void writeTheLastDay() {
        Bounds.sentence("WRITE: of no CARD and the days 0 .. 30 for it the one with which DAYS are least");
        int[][] rows = {
            {34, 35, 5, 2080, 32, 7403, 3, 64, 8, 23, 30},
            {17, 24, 3, 9999, 3, 4730, 2, 73, 371, 16, 29},
            {44, 46, 0, 391, 94, 9228, 3, 80, 546, 12, 2},
            {99, 29, 9, 9999, 84, 7451, 1, 30, 946, 4, 0},
            {17, 92, 4, 9999, 22, 7321, 2, 24, 506, 6, NONE}};
        for (int[] row : rows) {
            FineSlot x = new FineSlot();
            x.sort(1, row[0], row[1]);
            for (int what = 3; what < 7; what++) {
                x.change(0, what, row[what - 1]);
            }
            x.rule(row[6], row[7], row[8], row[9]);
            x.force(0);
            Bounds.due("write", x.write(), row[10]);
            x.card(7);
            Bounds.due("write, with a card", x.write(), row[10]);
            Bounds.due("the card stays", x.card(NONE), 7);
            int best = NONE;
            long least = x.library(DAYS);
            for (int day = 0; day <= 30; day++) {
                x.card(day);
                if (x.library(DAYS) < least) {
                    best = day;
                    least = x.library(DAYS);
                }
            }
            Bounds.due("the least DAYS", best, row[10]);
        }
        Bounds.sentence("(Nothing changes.)");
        Bounds.refused("write", Bounds::rich, x -> x.write() * 0, 0);
        Bounds.refused("write", Bounds::full, x -> x.write() * 0, 0);
    }

    private static void writeNeedsNoRule() {
        Bounds.sentence("WRITE: the day; NONE: none.");
        FineSlot x = new FineSlot();
        x.sort(1, 50, 0);
        Bounds.due("no RULE in force", x.write(), 0);
        // 99 * 31 * 1000000 is below 0, if it is cut to an int.
        x.change(0, MANY, 99);
        x.change(0, FORGETS, 100);
        Bounds.due("beyond an int", x.write(), 0);
        Bounds.text(x, "forget f");
        Bounds.due("by a text no card counts", x.write(), NONE);
    }

    private static void leastIsRefused() {
        Bounds.sentence("LEAST RULE. NONE: there are no RULES.");
        Bounds.refused("no RULES", Bounds::bare, x -> x.least(), NONE);
        Bounds.refused("no RULES, but SORTS", x -> x.sort(1, 1, 1), x -> x.least(), NONE);
        Bounds.refused("one RULE, not in force", x -> x.rule(0, 99, 0, 1), x -> x.least(), 0);
        Bounds.sentence("(Nothing changes.)");
        Bounds.refused("least", Bounds::rich, x -> x.least() * 0, 0);
        Bounds.refused("least", Bounds::full, x -> x.least() * 0, 0);
    }

    private static void leastOfSeveral() {
        Bounds.sentence("DAYS are least; of several the one with the most COIN, then the least");
        for (int best = 0; best < 8; best++) {
            FineSlot x = new FineSlot();
            x.sort(3, 50, 0);
            for (int i = 0; i < 8; i++) {
                x.rule(0, i == best ? 9 : 10, 0, 1);
            }
            x.change(0, LIMIT, 9);
            Bounds.due("one with which he brings", x.least(), best);
            x.change(0, LIMIT, 10);
            Bounds.due("of as many DAYS the most COIN", x.least(), best == 0 ? 1 : 0);
            x.set(best, 0, 11);
            x.change(0, LIMIT, 11);
            Bounds.due("of as many DAYS the most COIN", x.least(), best);
            x.change(0, LIMIT, 8);
            Bounds.due("of as many DAYS and as much COIN the least", x.least(), 0);
            x.change(0, LIMIT, 10);
            x.force(best);
            Bounds.due("less DAYS, THE RULE does not matter", x.least(), best == 0 ? 1 : 0);
            Bounds.due("THE RULE stays", x.count(2), best);
        }
        FineSlot x = new FineSlot();
        for (int i = 0; i < 8; i++) {
            x.rule(i % 6, i, i, 1);
        }
        Bounds.due("no SORTS: all are as good", x.least(), 0);
    }

    private static void leastBeyondAnInt() {
        Bounds.sentence("of all RULES the one with which, as THE RULE, DAYS are least");
        FineSlot x = new FineSlot();
        x.sort(99, 0, 0);
        x.change(0, LIMIT, 98);
        x.rule(0, 99, 0, 1);
        x.rule(0, 98, 0, 1);
        Bounds.due("3069 millions are more than 0", x.least(), 1);
        // 99 * 1000000 * 22 is below 0, if it is cut to an int.
        x.set(0, 0, 22);
        x.set(1, 0, 1);
        Bounds.due("2178 millions are more than 99", x.least(), 0);
    }

    private static void leastWithTheCard() {
        Bounds.sentence("as THE RULE, DAYS are least");
        for (int card = -1; card <= 30; card++) {
            FineSlot x = new FineSlot();
            x.sort(7, 60, 20);
            x.sort(9, 99, 5);
            x.sort(4, 33, 70);
            x.change(0, LIMIT, 90);
            x.change(1, READS, 4);
            x.change(2, NEVER, 180);
            for (int i = 0; i < 6; i++) {
                x.rule(i, 3 + i, 20 + 10 * i, 2 + i);
            }
            x.card(card < 0 ? NONE : card);
            int found = x.least();
            int best = 0;
            long days = Long.MAX_VALUE;
            long coin = 0;
            for (int i = 0; i < 6; i++) {
                x.force(i);
                if (x.library(DAYS) < days || x.library(DAYS) == days && x.library(COIN) > coin) {
                    best = i;
                    days = x.library(DAYS);
                    coin = x.library(COIN);
                }
            }
            Bounds.due("card " + card, found, best);
        }
    }
}
