/** The boundary sentences of "1 DAYS late", sorts, and of promises 1 to 5. */
public final class SortsBoundsTest {
    private static final int BAD = Bounds.BAD, NO = Bounds.NO, FULL = Bounds.FULL, NONE = Bounds.NONE;
    private static final int NOTHING = Bounds.NOTHING;
    private static final int[] MOST = {99, 100, 99, 9, 9999, 99, 9999};
    private static final int[] AT_FIRST = {1, 2, 3, 0, 9999, 0, 500};

    public static void main(String[] args) {
        aNewObject();
        sixAtMost();
        whatASortMayBe();
        whatIsRefusedFirst();
        whatASortIsAtFirst();
        telling();
        changing();
        changingLeavesTheRest();
        dealing();
        dealingForRoom();
        dealingByRests();
        Bounds.end();
    }

    private static void aNewObject() {
        Bounds.sentence("As told; no SORTS.");
        FineSlot x = new FineSlot();
        long[] counts = {0, 0, NONE, NONE, 0, 0, 0, 1};
        for (int what = 0; what < 8; what++) {
            Bounds.due("count " + what, x.count(what), counts[what]);
        }
        Bounds.due("a sort", x.sortTold(0, 0), BAD);
        Bounds.due("a rule", x.told(0, 0), BAD);
        Bounds.due("a text", x.textTold(0, 0), BAD);
        for (int key = 0; key < 3; key++) {
            Bounds.due("why " + key, x.why(key), NONE);
        }
        for (int sheet = 0; sheet < 4; sheet++) {
            Bounds.due("sheet " + sheet, x.learn(sheet), NOTHING);
        }
        for (int slot = 0; slot < 5; slot++) {
            Bounds.due("slot " + slot, x.rest(slot, 1), NOTHING);
        }
        Bounds.due("image", x.back(), NO);
        Bounds.due("text of an empty tape", x.text(), -100);
        for (int what = 0; what < 4; what++) {
            Bounds.due("library " + what, x.library(what), 0);
        }
    }

    private static void sixAtMost() {
        Bounds.sentence("SORTS of readers, 6 at most, numbered from 0");
        FineSlot x = new FineSlot();
        for (int i = 0; i < 6; i++) {
            Bounds.due("sort " + i, x.sort(1, 1, 1), i);
            Bounds.due("sorts", x.count(0), i + 1);
        }
        Bounds.due("the seventh", x.sort(1, 1, 1), FULL);
        Bounds.due("sorts", x.count(0), 6);
        Bounds.refused("the seventh", Bounds::full, y -> y.sort(1, 1, 1), FULL);
    }

    private static void whatASortMayBe() {
        Bounds.sentence("MANY 0 .. 99");
        Bounds.range("sort MANY", 0, 99, Bounds::rich, (x, v) -> x.sort(v, 5, 6), 3, x -> x.sortTold(3, 0));
        Bounds.sentence("FORGETS 0 .. 100 (hundredths)");
        Bounds.range("sort FORGETS", 0, 100, Bounds::rich, (x, v) -> x.sort(5, v, 6), 3, x -> x.sortTold(3, 1));
        Bounds.sentence("WALK 0 .. 99");
        Bounds.range("sort WALK", 0, 99, Bounds::rich, (x, v) -> x.sort(5, 6, v), 3, x -> x.sortTold(3, 2));
        Bounds.range("sort WALK, bare", 0, 99, Bounds::bare, (x, v) -> x.sort(5, 6, v), 0, x -> x.sortTold(0, 2));
    }

    private static void whatIsRefusedFirst() {
        Bounds.sentence("One more SORT: its number. BAD; FULL.");
        Bounds.refused("MANY of the seventh", Bounds::full, x -> x.sort(100, 0, 0), BAD);
        Bounds.refused("FORGETS of the seventh", Bounds::full, x -> x.sort(0, 101, 0), BAD);
        Bounds.refused("WALK of the seventh", Bounds::full, x -> x.sort(0, 0, -1), BAD);
        Bounds.refused("the seventh", Bounds::full, x -> x.sort(99, 100, 99), FULL);
    }

    private static void whatASortIsAtFirst() {
        Bounds.sentence("SHAME 0 .. 9 (0 at first), LIMIT 0 .. 9999 (9999 at first), READS 0 .. 99 (0 at first), NEVER 0 .. 9999 (500 at first)");
        FineSlot x = new FineSlot();
        x.sort(1, 2, 3);
        for (int what = 0; what < 7; what++) {
            Bounds.due("sortTold " + what, x.sortTold(0, what), AT_FIRST[what]);
        }
        x.keep();
        for (int i = 1; i < 6; i++) {
            x.sort(9, 9, 9);
            for (int what = 3; what < 7; what++) {
                x.change(i, what, 7);
            }
        }
        x.back();
        x.sort(1, 2, 3);
        for (int what = 0; what < 7; what++) {
            Bounds.due("in a place used before " + what, x.sortTold(1, what), AT_FIRST[what]);
        }
    }

    private static void telling() {
        Bounds.sentence("Of a SORT: what 0 MANY, 1 FORGETS, 2 WALK, 3 SHAME, 4 LIMIT, 5 READS, 6 NEVER. BAD.");
        Bounds.numbers("sortTold", 0, (x, v) -> x.sortTold(v, 0));
        Bounds.numbers("sortTold NEVER", 0, (x, v) -> x.sortTold(v, 6));
        Bounds.outside("sortTold what", 0, 6, Bounds::rich, (x, v) -> x.sortTold(0, v), BAD);
        Bounds.outside("sortTold what", 0, 6, Bounds::full, (x, v) -> x.sortTold(5, v), BAD);
        for (int what = 0; what < 7; what++) {
            int w = what;
            long[] last = {5, 40, 7, 4, 300, 1, 700};
            Bounds.refused("sortTold changes nothing", Bounds::rich, x -> x.sortTold(2, w), last[w]);
        }
    }

    private static void changing() {
        Bounds.sentence("What is told by sortTold() becomes v: what it was. BAD.");
        Bounds.Steps one = x -> {
            x.sort(9, 9, 9);
            x.sort(1, 2, 3);
        };
        for (int what = 0; what < 7; what++) {
            int w = what;
            Bounds.range("change " + w, 0, MOST[w], one, (x, v) -> x.change(1, w, v), AT_FIRST[w], x -> x.sortTold(1, w));
            Bounds.outside("change " + w, 0, MOST[w], Bounds::full, (x, v) -> x.change(5, w, v), BAD);
            Bounds.numbers("change " + w, 0, (x, v) -> x.change(v, w, 1));
        }
        Bounds.outside("change what", 0, 6, Bounds::rich, (x, v) -> x.change(0, v, 1), BAD);
        Bounds.refusedAnywhere("all is wrong", x -> x.change(Bounds.HIGH, Bounds.LOW, Bounds.HIGH), BAD);
        FineSlot x = Bounds.made(one);
        Bounds.due("change", x.change(1, 4, 0), 9999);
        Bounds.due("change to the same", x.change(1, 4, 0), 0);
        Bounds.due("change again", x.change(1, 4, 9999), 0);
    }

    private static void changingLeavesTheRest() {
        Bounds.sentence("What is told by sortTold() becomes v");
        FineSlot x = new FineSlot();
        for (int i = 0; i < 6; i++) {
            x.sort(i, i, i);
        }
        for (int what = 0; what < 7; what++) {
            x.change(2, what, 8);
        }
        for (int sort = 0; sort < 6; sort++) {
            for (int what = 0; what < 7; what++) {
                long want = sort == 2 ? 8 : what < 3 ? sort : AT_FIRST[what];
                Bounds.due("sortTold " + sort + " " + what, x.sortTold(sort, what), want);
            }
        }
        Bounds.leaves("there and back", Bounds::rich, y -> y.change(2, 6, 3) + y.change(2, 6, 700), 703, y -> { });
    }

    private static void dealing() {
        Bounds.sentence("SORTS are drawn, n (1 .. 6) of them");
        for (int n = 1; n <= 6; n++) {
            FineSlot x = new FineSlot();
            Bounds.due("deal " + n, x.deal(n), n);
            Bounds.due("sorts", x.count(0), n);
            Bounds.due("z", x.count(7), zBehind(1, 5 * n));
        }
        Bounds.outside("deal", 1, 6, Bounds::bare, (x, v) -> x.deal(v), BAD);
        Bounds.outside("deal", 1, 6, Bounds::rich, (x, v) -> x.deal(v), BAD);
        Bounds.outside("deal", 1, 6, Bounds::full, (x, v) -> x.deal(v), BAD);
    }

    private static void dealingForRoom() {
        Bounds.sentence("as many as there is room for (no draws for others): how many came");
        for (int there = 0; there <= 6; there++) {
            for (int n = 1; n <= 6; n++) {
                FineSlot x = new FineSlot();
                for (int i = 0; i < there; i++) {
                    x.sort(1, 1, 1);
                }
                int came = Math.min(n, 6 - there);
                Bounds.due("deal " + n + " beside " + there, x.deal(n), came);
                Bounds.due("sorts", x.count(0), there + came);
                Bounds.due("z", x.count(7), zBehind(1, 5 * came));
            }
        }
        Bounds.refused("deal where there is no room", Bounds::full, x -> x.deal(6), 0);
        Bounds.refused("deal where there is no room", Bounds::full, x -> x.deal(1), 0);
    }

    private static void dealingByRests() {
        Bounds.sentence("MANY, FORGETS, WALK are the rests of three draws by 100, 101, 100; SHAME, READS those of two more by 10, 20");
        int[] by = {100, 101, 100, 10, 20};
        int[] what = {0, 1, 2, 3, 5};
        for (int i = 0; i < 5; i++) {
            for (int rest : new int[] {0, 1, by[i] - 2, by[i] - 1}) {
                FineSlot x = new FineSlot();
                x.seed(seedFor(i + 1, by[i], rest));
                x.deal(1);
                Bounds.due("rest " + rest + " by " + by[i], x.sortTold(0, what[i]), rest);
                Bounds.due("LIMIT", x.sortTold(0, 4), 9999);
                Bounds.due("NEVER", x.sortTold(0, 6), 500);
            }
        }
        Bounds.sentence("z becomes z * 1103515245 + 12345 (an int); it gives z >>> 8");
        int[] seeds = {0, -1, 1, Bounds.LOW, Bounds.HIGH, 1103515245, -1103515245};
        for (int seed : seeds) {
            FineSlot x = new FineSlot();
            x.seed(seed);
            x.deal(1);
            for (int i = 0; i < 5; i++) {
                Bounds.due("from " + seed, x.sortTold(0, what[i]), drawBehind(seed, i + 1) % by[i]);
            }
            Bounds.due("z from " + seed, x.count(7), zBehind(seed, 5));
        }
    }

    /** By long arithmetic, cut to 32 bits. */
    private static int zBehind(int z, int draws) {
        long v = z;
        for (int i = 0; i < draws; i++) {
            v = (v * 1103515245L + 12345L) & 0xffffffffL;
        }
        return (int) v;
    }

    private static long drawBehind(int z, int draws) {
        return (zBehind(z, draws) & 0xffffffffL) / 256;
    }

    private static int seedFor(int draws, int by, int rest) {
        int seed = 1;
        while (drawBehind(seed, draws) % by != rest) {
            seed += 7919;
        }
        return seed;
    }
}
