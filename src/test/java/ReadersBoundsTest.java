/** The boundary sentences of "2 A READER", of draws in "3 FIND", and of promises 14 to 18. */
public final class ReadersBoundsTest {
    private static final int BAD = Bounds.BAD, NONE = Bounds.NONE;
    private static final int SHAME = 3, LIMIT = 4, READS = 5, NEVER = 6;
    private static final int F = 0, BRINGING = 1, KEEPING = 2, COST = 3, BRINGS = 4, BROUGHT = 5, OUT = 6;
    /** An int that has wrapped: 2048 * 1024 * 1024 is the least, less 1 the most. */
    private static final String LEAST_INT = "2048*1024*1024", MOST_INT = "2048*1024*1024-1";

    public static void main(String[] args) {
        whoIsAsked();
        forgettingByAText();
        forgettingFromTheCardOn();
        shameByAText();
        shameWithoutAText();
        keeping();
        limit();
        asDear();
        cost();
        outAndBrought();
        cutBrought();
        firstIsRefused();
        firstHeBrings();
        firstAboveLimit();
        firstHalf();
        drawnByItsRest();
        drawnBehindTheLastDay();
        runIsRefused();
        year();
        seed();
        Bounds.end();
    }

    /** One sort, of readers who forget nothing and walk nowhere, and a rule in force that asks 0. */
    private static FineSlot one() {
        FineSlot x = new FineSlot();
        x.sort(1, 0, 0);
        x.rule(0, 0, 0, 1);
        x.force(0);
        return x;
    }

    private static FineSlot one(String text) {
        FineSlot x = one();
        Bounds.text(x, text);
        return x;
    }

    /** So that who forgets all does so on all days. */
    private static void richWithoutCard(FineSlot x) {
        Bounds.rich(x);
        x.card(NONE);
    }

    private static void whoIsAsked() {
        Bounds.sentence("Of a READER on a day: what 0 F, 1 BRINGING, 2 KEEPING, 3 COST, 4 whether HE BRINGS (1, 0), 5 BROUGHT, 6 OUT behind it. BAD.");
        for (int what = 0; what < 7; what++) {
            int w = what;
            Bounds.numbers("sort", 0, (x, v) -> x.reader(v, 0, w));
            Bounds.numbers("sort", 0, (x, v) -> x.reader(v, 30, w));
            Bounds.outside("day", 0, 30, Bounds::rich, (x, v) -> x.reader(2, v, w), BAD);
            Bounds.outside("day", 0, 30, Bounds::full, (x, v) -> x.reader(5, v, w), BAD);
        }
        Bounds.outside("what", 0, 6, Bounds::rich, (x, v) -> x.reader(0, 0, v), BAD);
        Bounds.outside("what", 0, 6, Bounds::full, (x, v) -> x.reader(5, 30, v), BAD);
        Bounds.refused("reader changes nothing", Bounds::rich, x -> x.reader(0, 0, OUT), 0);
    }

    private static void forgettingByAText() {
        Bounds.sentence("HE FORGETS F: what forget gives, held within 0 .. 100");
        String[] laws = {LEAST_INT, "0-2", "0-1", "0", "1", "99", "100", "101", "9999", MOST_INT};
        long[] held = {0, 0, 0, 0, 1, 99, 100, 100, 100, 100};
        for (int i = 0; i < laws.length; i++) {
            FineSlot x = one("forget " + laws[i]);
            x.change(0, 1, 50);
            Bounds.due("F of day 0, " + laws[i], x.reader(0, 0, F), held[i]);
            Bounds.due("F of day 30, " + laws[i], x.reader(0, 30, F), held[i]);
            Bounds.due("BROUGHT by it", x.reader(0, 0, BROUGHT), 10000 * (100 - held[i]));
            x.card(0);
            Bounds.due("F, no half by a text, " + laws[i], x.reader(0, 0, F), held[i]);
        }
        FineSlot x = one("forget f + d");
        for (int forgets : new int[] {0, 1, 69, 70, 71, 100}) {
            x.change(0, 1, forgets);
            Bounds.due("f on day 0", x.reader(0, 0, F), forgets);
            Bounds.due("f on day 30", x.reader(0, 30, F), Math.min(100, forgets + 30));
        }
    }

    private static void forgettingFromTheCardOn() {
        Bounds.sentence("(without a TEXT: FORGETS, from THE CARD's day on half of it, cut)");
        FineSlot x = one();
        int[] forgets = {0, 1, 2, 3, 98, 99, 100};
        int[] half = {0, 0, 1, 1, 49, 49, 50};
        for (int i = 0; i < forgets.length; i++) {
            x.change(0, 1, forgets[i]);
            x.card(NONE);
            Bounds.due("no card, day 0", x.reader(0, 0, F), forgets[i]);
            Bounds.due("no card, day 30", x.reader(0, 30, F), forgets[i]);
            for (int card : new int[] {0, 1, 15, 29, 30}) {
                x.card(card);
                for (int day = 0; day <= 30; day++) {
                    Bounds.due("card " + card + " day " + day, x.reader(0, day, F), day < card ? forgets[i] : half[i]);
                }
            }
            x = one();
        }
    }

    private static void shameByAText() {
        Bounds.sentence("and what shame gives, held within 0 .. 9999");
        String[] laws = {LEAST_INT, "0-2", "0-1", "0", "1", "9998", "9999", "9999+1", "9999*2", MOST_INT};
        long[] held = {0, 0, 0, 0, 1, 9998, 9999, 9999, 9999, 9999};
        for (int i = 0; i < laws.length; i++) {
            FineSlot x = one("shame " + laws[i]);
            x.change(0, 2, 99);
            x.change(0, SHAME, 9);
            x.set(0, 0, 50);
            Bounds.due("WALK, o, and " + laws[i], x.reader(0, 30, BRINGING), 99 + 50 + held[i]);
        }
        FineSlot x = one("shame o * 100 + s");
        x.change(0, SHAME, 9);
        x.set(0, 0, 99);
        Bounds.due("o 99", x.reader(0, 0, BRINGING), 99 + 9909);
        x.turns(0, 2);
        x.set(0, 0, 0);
        x.set(0, 1, 100);
        Bounds.due("o 100, held", x.reader(0, 0, BRINGING), 100 + 9999);
        x.force(NONE);
        Bounds.due("o 0", x.reader(0, 0, BRINGING), 9);
    }

    private static void shameWithoutAText() {
        Bounds.sentence("(without a TEXT: SHAME times o / 10), together");
        int[][] rows = {{9, 0, 0}, {9, 1, 0}, {9, 2, 1}, {1, 9, 0}, {1, 10, 1}, {1, 11, 1}, {1, 19, 1}, {1, 20, 2},
            {3, 15, 4}, {9, 99, 89}, {0, 99, 0}, {5, 1, 0}, {5, 2, 1}};
        FineSlot x = one();
        for (int[] row : rows) {
            x.change(0, SHAME, row[0]);
            x.set(0, 0, row[1]);
            Bounds.due("SHAME " + row[0] + ", o " + row[1], x.reader(0, 7, BRINGING), row[1] + row[2]);
            x.change(0, 2, 99);
            Bounds.due("and WALK 99", x.reader(0, 7, BRINGING), 99 + row[1] + row[2]);
            x.change(0, 2, 0);
        }
        x.change(0, SHAME, 9);
        x.turns(0, 2);
        x.set(0, 1, 999);
        x.set(0, 0, 99);
        Bounds.due("o 1098", x.reader(0, 7, BRINGING), 1098 + 988);
    }

    private static void keeping() {
        Bounds.sentence("KEEPING: COST of the next day, less READS.");
        Bounds.sentence("of day 31: NEVER.");
        int[][] rows = {{0, 0}, {0, 1}, {0, 99}, {1, 1}, {500, 99}, {9999, 0}, {9998, 99}, {9999, 99}};
        for (int[] row : rows) {
            FineSlot x = one();
            x.change(0, 1, 100);
            x.change(0, NEVER, row[0]);
            x.change(0, READS, row[1]);
            for (int day = 0; day <= 30; day++) {
                int want = row[0] - (31 - day) * row[1];
                Bounds.due("NEVER " + row[0] + ", READS " + row[1] + ", day " + day, x.reader(0, day, KEEPING), want);
                Bounds.due("COST of who forgets all", x.reader(0, day, COST), want);
            }
        }
    }

    private static void limit() {
        Bounds.sentence("HE BRINGS, if o is not above LIMIT");
        FineSlot x = one();
        int[] limits = {0, 1, 50, 98, 99};
        for (int most : limits) {
            x.change(0, LIMIT, most);
            for (int o = Math.max(0, most - 1); o <= Math.min(99, most + 1); o++) {
                x.set(0, 0, o);
                Bounds.due("o " + o + ", LIMIT " + most, x.reader(0, 30, BRINGS), o <= most ? 1 : 0);
                Bounds.due("BROUGHT", x.reader(0, 0, BROUGHT), o <= most ? 1000000 : 0);
            }
        }
        // d times 909 is 9999 on day 11; NEVER is 9999, so that he would bring it for that.
        x = one("owe 909");
        x.turns(0, 1);
        x.change(0, NEVER, 9999);
        Bounds.due("o 9090, LIMIT 9999", x.reader(0, 10, BRINGS), 1);
        Bounds.due("o 9999, LIMIT 9999", x.reader(0, 11, BRINGS), 1);
        Bounds.due("o 10908, LIMIT 9999", x.reader(0, 12, BRINGS), 0);
        x.change(0, LIMIT, 9998);
        Bounds.due("o 9999, LIMIT 9998", x.reader(0, 11, BRINGS), 0);
    }

    private static void asDear() {
        Bounds.sentence("and BRINGING is not above KEEPING");
        FineSlot x = one();
        x.change(0, NEVER, 50);
        for (int walk = 49; walk <= 51; walk++) {
            x.change(0, 2, walk);
            Bounds.due("BRINGING " + walk + ", KEEPING 50", x.reader(0, 30, BRINGS), walk <= 50 ? 1 : 0);
        }
        x.change(0, 2, 0);
        x.change(0, NEVER, 1);
        for (int reads = 0; reads <= 2; reads++) {
            x.change(0, READS, reads);
            Bounds.due("BRINGING 0, KEEPING " + (1 - reads), x.reader(0, 30, BRINGS), reads <= 1 ? 1 : 0);
        }
        x.change(0, READS, 0);
        x.change(0, NEVER, 0);
        Bounds.due("BRINGING 0, KEEPING 0", x.reader(0, 30, BRINGS), 1);
        x.change(0, 2, 1);
        Bounds.due("BRINGING 1, KEEPING 0", x.reader(0, 30, BRINGS), 0);
    }

    private static void cost() {
        Bounds.sentence("F times KEEPING and (100 less F) times (BRINGING, if HE BRINGS, else KEEPING), together by 100 (cut)");
        // On day 30: KEEPING is NEVER, BRINGING is WALK.
        int[][] rows = {{0, 3, 7, 3}, {1, 3, 7, 3}, {24, 3, 7, 3}, {25, 3, 7, 4}, {26, 3, 7, 4}, {49, 3, 7, 4}, {50, 3, 7, 5},
            {99, 3, 7, 6}, {100, 3, 7, 7}, {99, 98, 9999, 9899}, {1, 98, 9999, 197}, {0, 7, 7, 7}, {37, 7, 7, 7},
            {0, 8, 7, 7}, {37, 8, 7, 7}, {100, 8, 7, 7}, {99, 0, 1, 0}, {1, 0, 99, 0}, {1, 0, 100, 1}, {1, 0, 101, 1}};
        for (int[] row : rows) {
            FineSlot x = one();
            x.change(0, 1, row[0]);
            x.change(0, 2, row[1]);
            x.change(0, NEVER, row[2]);
            Bounds.due("F " + row[0] + ", BRINGING " + row[1] + ", KEEPING " + row[2], x.reader(0, 30, COST), row[3]);
            Bounds.due("KEEPING the day ahead", x.reader(0, 29, KEEPING), row[3]);
        }
        FineSlot x = one();
        x.change(0, 1, 33);
        x.change(0, NEVER, 0);
        x.change(0, READS, 1);
        Bounds.due("KEEPING -1: he keeps", x.reader(0, 30, COST), -1);
        Bounds.due("KEEPING -31: he keeps", x.reader(0, 0, COST), -31);
    }

    private static void outAndBrought() {
        Bounds.sentence("OUT ahead of day 0 is 1000000; BROUGHT on a day: OUT ahead of it times (100 less F) by 100 (cut), if HE BRINGS, else 0; OUT is less by that.");
        FineSlot x = one();
        Bounds.due("F 0: all on day 0", x.reader(0, 0, BROUGHT), 1000000);
        Bounds.due("F 0: none is out", x.reader(0, 0, OUT), 0);
        Bounds.due("F 0: none on day 1", x.reader(0, 1, BROUGHT), 0);
        Bounds.due("F 0: none is out on day 30", x.reader(0, 30, OUT), 0);
        x.change(0, 1, 100);
        Bounds.due("F 100: he would bring", x.reader(0, 0, BRINGS), 1);
        Bounds.due("F 100: none", x.reader(0, 0, BROUGHT), 0);
        Bounds.due("F 100: all are out", x.reader(0, 30, OUT), 1000000);
        x.change(0, 1, 0);
        x.change(0, 2, 1);
        x.change(0, NEVER, 0);
        Bounds.due("he keeps: none", x.reader(0, 0, BROUGHT), 0);
        Bounds.due("he keeps: all are out", x.reader(0, 30, OUT), 1000000);
        x = one("owe 9 * (d < 30)");
        x.change(0, LIMIT, 8);
        Bounds.due("ahead of the last day", x.reader(0, 29, OUT), 1000000);
        Bounds.due("on the last day", x.reader(0, 30, BROUGHT), 1000000);
        Bounds.due("behind the last day", x.reader(0, 30, OUT), 0);
    }

    private static void cutBrought() {
        Bounds.sentence("BROUGHT on a day: OUT ahead of it times (100 less F) by 100 (cut)");
        FineSlot x = one();
        x.change(0, 1, 1);
        long[] ofOne = {990000, 9900, 99, 0, 0};
        long[] left = {10000, 100, 1, 1, 1};
        for (int day = 0; day < 5; day++) {
            Bounds.due("F 1, day " + day, x.reader(0, day, BROUGHT), ofOne[day]);
            Bounds.due("F 1, OUT behind day " + day, x.reader(0, day, OUT), left[day]);
        }
        Bounds.due("the last one stays out", x.reader(0, 30, OUT), 1);
        x.change(0, 1, 99);
        long[] of99 = {10000, 9900, 9801, 9702, 9605};
        long out = 1000000;
        for (int day = 0; day < 5; day++) {
            out -= of99[day];
            Bounds.due("F 99, day " + day, x.reader(0, day, BROUGHT), of99[day]);
            Bounds.due("F 99, OUT behind day " + day, x.reader(0, day, OUT), out);
        }
    }

    private static void firstIsRefused() {
        Bounds.sentence("(2). BAD; NONE.");
        for (int what = 0; what < 3; what++) {
            int w = what;
            Bounds.numbers("sort", 0, (x, v) -> x.first(v, w));
        }
        Bounds.outside("what", 0, 2, Bounds::rich, (x, v) -> x.first(0, v), BAD);
        Bounds.outside("what", 0, 2, Bounds::full, (x, v) -> x.first(5, v), BAD);
        Bounds.refused("BAD ahead of NONE", Bounds::bare, x -> x.first(0, 1), BAD);
        Bounds.refused("NONE changes nothing", ReadersBoundsTest::richWithoutCard, x -> x.first(1, 2), NONE);
        Bounds.refused("a day changes nothing", Bounds::rich, x -> x.first(0, 2), 0);
    }

    private static void firstHeBrings() {
        Bounds.sentence("The first day (0 .. 30) on which HE BRINGS (what 0)");
        for (int day : new int[] {0, 1, 15, 29, 30}) {
            FineSlot x = one("owe 9 * (d < " + day + ")");
            x.change(0, LIMIT, 8);
            Bounds.due("from day " + day + " on", x.first(0, 0), day);
            x.change(0, 1, 100);
            Bounds.due("from day " + day + " on, if he forgets it, too", x.first(0, 0), day);
        }
        FineSlot x = one("owe 9");
        x.change(0, LIMIT, 8);
        Bounds.due("never", x.first(0, 0), NONE);
    }

    private static void firstAboveLimit() {
        Bounds.sentence("on which o is above LIMIT (1)");
        for (int day : new int[] {0, 1, 15, 29, 30}) {
            FineSlot x = one("owe 8 + (d > " + day + " | d = " + day + ")");
            x.change(0, LIMIT, 8);
            Bounds.due("from day " + day + " on", x.first(0, 1), day);
            x.change(0, LIMIT, 9);
            Bounds.due("never", x.first(0, 1), NONE);
            x.change(0, LIMIT, 7);
            Bounds.due("at once", x.first(0, 1), 0);
        }
        FineSlot x = one("owe 400");
        x.turns(0, 1);
        Bounds.due("10000 is above 9999, 9600 is not", x.first(0, 1), 25);
        x.force(NONE);
        x.change(0, LIMIT, 0);
        Bounds.due("0 is not above 0", x.first(0, 1), NONE);
    }

    private static void firstHalf() {
        Bounds.sentence("behind which OUT is 500000 or less (2)");
        FineSlot x = one("forget (d=0)*99+(d=1)*97+(d=2)*77+(d=3)*91+(d=4)*94+(d=5)*85+(d=6)*93");
        Bounds.due("OUT behind day 6", x.reader(0, 6, OUT), 500001);
        Bounds.due("500001 is more", x.first(0, 2), 7);
        x = one("forget (d=0)*74+(d=1)*75+(d=2)*91+(d=3)*99");
        Bounds.due("OUT behind day 3", x.reader(0, 3, OUT), 500000);
        Bounds.due("500000 is not", x.first(0, 2), 3);
        x = one("forget (d=0)*82+(d=1)*94+(d=2)*93+(d=3)*75+(d=4)*93");
        Bounds.due("OUT behind day 4", x.reader(0, 4, OUT), 499999);
        Bounds.due("499999 is not", x.first(0, 2), 4);
        x = one("forget 100 * (d < 30)");
        Bounds.due("on the last day", x.first(0, 2), 30);
        x = one("forget 100 - 49 * (d = 30)");
        Bounds.due("510000 behind the last day", x.first(0, 2), NONE);
        x = one("forget 100 - 50 * (d = 30)");
        Bounds.due("500000 behind the last day", x.first(0, 2), 30);
    }

    private static void drawnByItsRest() {
        Bounds.sentence("if its rest by 100 is F or more, and HE BRINGS, it is that day; else the next one");
        for (int rest : new int[] {0, 1, 50, 98, 99}) {
            for (int f = Math.max(0, rest - 1); f <= rest + 1; f++) {
                int g = f;
                FineSlot x = one();
                x.change(0, 1, f);
                int seed = 1;
                while (drawBehind(seed, 1) % 100 != rest || drawBehind(seed, 2) % 100 < g && g < 100) {
                    seed += 7919;
                }
                x.seed(seed);
                boolean comes = rest >= f;
                Bounds.due("rest " + rest + ", F " + f, x.run(0), comes ? 0 : f == 100 ? NONE : 1);
                Bounds.due("draws", x.count(7), zBehind(seed, comes ? 1 : f == 100 ? 31 : 2));
            }
        }
        FineSlot x = one("owe 9 * (d < 3)");
        x.change(0, LIMIT, 8);
        Bounds.due("a day on which he keeps", x.run(0), 3);
        Bounds.due("has its draw, too", x.count(7), zBehind(1, 4));
    }

    private static void drawnBehindTheLastDay() {
        Bounds.sentence("(without one behind day 30: NONE)");
        FineSlot x = one("forget 100 * (d < 30)");
        Bounds.due("on the last day", x.run(0), 30);
        Bounds.due("draws", x.count(7), zBehind(1, 31));
        x = one("forget 100");
        Bounds.due("never", x.run(0), NONE);
        Bounds.due("draws", x.count(7), zBehind(1, 31));
        x = one();
        x.change(0, 2, 1);
        x.change(0, NEVER, 0);
        Bounds.due("who keeps", x.run(0), NONE);
        Bounds.due("draws", x.count(7), zBehind(1, 31));
    }

    private static void runIsRefused() {
        Bounds.sentence("A READER that is drawn: the day. BAD; NONE.");
        Bounds.numbers("run", 0, (x, v) -> x.run(v));
        Bounds.leaves("only z changes", Bounds::rich, x -> x.run(0), 0, x -> x.seed(zBehind(77, 1)));
        Bounds.leaves("only z changes, NONE", ReadersBoundsTest::richWithoutCard, x -> x.run(1), NONE, x -> x.seed(zBehind(77, 31)));
    }

    private static void year() {
        Bounds.sentence("All READERS of all SORTS (MANY of each, SORT by SORT) are drawn: how many books are brought.");
        Bounds.refused("no SORTS", Bounds::bare, x -> x.year(), 0);
        for (int many : new int[] {0, 1, 2, 98, 99}) {
            FineSlot x = one();
            x.change(0, 0, many);
            Bounds.due("MANY " + many, x.year(), many);
            Bounds.due("draws", x.count(7), zBehind(1, many));
            x.change(0, 1, 100);
            x.seed(1);
            Bounds.due("MANY " + many + " who forget all", x.year(), 0);
            Bounds.due("draws", x.count(7), zBehind(1, 31 * many));
        }
        FineSlot x = new FineSlot();
        for (int i = 0; i < 6; i++) {
            x.sort(99, i % 2 * 100, 0);
        }
        Bounds.due("6 SORTS of 99", x.year(), 3 * 99);
        Bounds.due("draws", x.count(7), zBehind(1, 3 * 99 + 3 * 99 * 31));
        Bounds.leaves("only z changes", Bounds::rich, y -> y.year() * 0, 0, y -> {
            Bounds.due("three of sort 0", y.run(0) + y.run(0) + y.run(0), 0);
            for (int i = 0; i < 4; i++) {
                y.run(1);
            }
            for (int i = 0; i < 5; i++) {
                y.run(2);
            }
        });
    }

    private static void seed() {
        Bounds.sentence("z becomes v: what it was.");
        int[] seeds = {0, 1, -1, Bounds.LOW, Bounds.HIGH, Bounds.LOW + 1, NONE, BAD};
        FineSlot x = new FineSlot();
        int was = 1;
        for (int v : seeds) {
            Bounds.due("seed " + v, x.seed(v), was);
            Bounds.due("z", x.count(7), v);
            was = v;
        }
        Bounds.sentence("z is told (1 at first)");
        Bounds.due("z", new FineSlot().seed(5), 1);
        Bounds.leaves("there and back", Bounds::rich, y -> y.seed(-9) * 100 + y.seed(77), 7691, y -> { });
    }

    /** By long arithmetic, cut to 32 bits. */
    private static int zBehind(int z, int draws) {
        long v = z;
        for (int i = 0; i < draws; i++) {
            v = (v * 1103515245L + 12345L) & 0xffffffffL;
        }
        return (int) v;
    }

    private static long drawBehind(int z, int draws) {
        return (zBehind(z, draws) & 0xffffffffL) / 256;
    }
}
