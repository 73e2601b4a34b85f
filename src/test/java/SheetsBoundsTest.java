/** The boundary sentences of "5 SHEETS", of LEARNT in "3 FIND", and of promises 29 to 37. */
public final class SheetsBoundsTest {
    private static final int BAD = Bounds.BAD, NO = Bounds.NO, NONE = Bounds.NONE;
    private static final int NOTHING = Bounds.NOTHING, KIND = Bounds.KIND, INDEX = Bounds.INDEX, SIZE = Bounds.SIZE;
    private static final int LOW = Bounds.LOW, HIGH = Bounds.HIGH;
    private static final int SHORTS = 0, FLOATS = 1;

    public static void main(String[] args) {
        whichSheet();
        howManyPlaces();
        missing();
        whatSheetRefusesFirst();
        markRefuses();
        marksOfShorts();
        marksOfFloats();
        whichPlace();
        learnRefuses();
        learntOfSeveral();
        learntFromNumbers();
        learntCut();
        readsRefuses();
        readsTheFirstPlace();
        copyRefuses();
        copyWithinItsBounds();
        copyAsTheyWere();
        layRefuses();
        layHolds();
        laidAsItWas();
        askRefuses();
        askWorth();
        itemRefuses();
        restRefuses();
        restOfANumber();
        Bounds.end();
    }

    /** Sheet 0 shorts 1 2 3 4 5, sheet 1 floats 5 NO NUMBER -99999 0, sheet 2 missing, sheet 3 shorts, no places. */
    private static void rows(FineSlot x) {
        Bounds.rich(x);
        for (int k = 0; k < 5; k++) {
            x.mark(0, k, k + 1);
        }
    }

    /** A row's places, one behind the other; ? is NO NUMBER. It is laid into slot 4. */
    private static String places(FineSlot x, int sheet) {
        StringBuilder all = new StringBuilder();
        if (x.lay(4, 2, sheet) == NOTHING) {
            return "missing";
        }
        for (int k = 0; x.item(4, k) != INDEX && k < 99; k++) {
            all.append(k == 0 ? "" : " ").append(x.item(4, k) == KIND ? "?" : "" + x.item(4, k));
        }
        return all.toString();
    }

    private static void row(String name, String got, String want) {
        Bounds.due(name + ": " + got + ", due is " + want, got.equals(want) ? 1 : 0, 1);
    }

    private static void whichSheet() {
        Bounds.sentence("SHEETS 0 .. 3 are rows of shorts (sort 0) or floats (1; whole numbers), with 0 to 24 places, or MISSING (at first).");
        for (int sort = -1; sort < 2; sort++) {
            int s = sort;
            Bounds.places("sheet", 3, (x, v) -> x.sheet(v, s, 3));
        }
        Bounds.outside("sort", -1, 1, Bounds::rich, (x, v) -> x.sheet(0, v, 3), BAD);
        Bounds.outside("sort", -1, 1, Bounds::full, (x, v) -> x.sheet(3, v, 0), BAD);
        for (int sheet = 0; sheet < 4; sheet++) {
            row("at first", places(new FineSlot(), sheet), "missing");
        }
    }

    private static void howManyPlaces() {
        Bounds.sentence("A SHEET becomes a row of n places of a sort, all 0");
        for (int sort = 0; sort < 2; sort++) {
            int s = sort;
            for (int n : new int[] {0, 1, 2, 23, 24}) {
                FineSlot x = Bounds.made(Bounds::full);
                Bounds.due("sheet of " + n, x.sheet(2, sort, n), n);
                row("of " + n, places(x, 2), "0 ".repeat(n).trim());
                row("the others stay", places(x, 3).substring(0, 4), "43 0");
                Bounds.due("the first place", x.mark(2, 0, 1), n > 0 ? 1 : INDEX);
                Bounds.due("the last place", x.mark(2, n - 1, 1), n > 0 ? 1 : INDEX);
                Bounds.due("the place behind", x.mark(2, n, 1), INDEX);
            }
            Bounds.refused("25", Bounds::rich, x -> x.sheet(1, s, 25), BAD);
            Bounds.refused("many", Bounds::rich, x -> x.sheet(1, s, HIGH), BAD);
            Bounds.refused("-1", Bounds::rich, x -> x.sheet(1, s, -1), SIZE);
            Bounds.refused("few", Bounds::rich, x -> x.sheet(1, s, LOW), SIZE);
        }
    }

    private static void missing() {
        Bounds.sentence("(sort -1: MISSING, n any): n (0)");
        for (int n : new int[] {LOW, -1, 0, 1, 24, 25, HIGH}) {
            FineSlot x = Bounds.made(Bounds::rich);
            Bounds.due("n " + n, x.sheet(0, -1, n), 0);
            row("n " + n, places(x, 0), "missing");
            Bounds.due("again", x.sheet(0, -1, n), 0);
        }
        Bounds.refused("one that is missing", Bounds::rich, x -> x.sheet(2, -1, 7), 0);
    }

    private static void whatSheetRefusesFirst() {
        Bounds.sentence("BAD: sheet, sort, n above 24; SIZE.");
        Bounds.refusedAnywhere("sheet, n below 0", x -> x.sheet(4, 0, -1), BAD);
        Bounds.refusedAnywhere("sheet, n below 0", x -> x.sheet(-1, 1, -1), BAD);
        Bounds.refusedAnywhere("sort, n below 0", x -> x.sheet(0, 2, -1), BAD);
        Bounds.refusedAnywhere("sort, n below 0", x -> x.sheet(0, -2, LOW), BAD);
        Bounds.refusedAnywhere("sheet of MISSING", x -> x.sheet(4, -1, 0), BAD);
        Bounds.refusedAnywhere("n alone", x -> x.sheet(0, 0, -1), SIZE);
    }

    private static void markRefuses() {
        Bounds.sentence("BAD: sheet; NOTHING; INDEX; KIND: NONE in a row of shorts; BAD: v of floats.");
        Bounds.places("sheet", 3, (x, v) -> x.mark(v, 0, 0));
        Bounds.refusedAnywhere("BAD, all is wrong", x -> x.mark(4, -1, NONE), BAD);
        Bounds.refused("NOTHING", Bounds::rich, x -> x.mark(2, 0, 0), NOTHING);
        Bounds.refused("NOTHING, ahead of INDEX", Bounds::rich, x -> x.mark(2, -1, NONE), NOTHING);
        Bounds.refused("NOTHING, bare", Bounds::bare, x -> x.mark(0, 0, 100000), NOTHING);
        Bounds.refused("INDEX of no places", Bounds::rich, x -> x.mark(3, 0, 1), INDEX);
        Bounds.refused("INDEX, ahead of KIND", Bounds::rich, x -> x.mark(0, 5, NONE), INDEX);
        Bounds.refused("INDEX, ahead of BAD", Bounds::rich, x -> x.mark(1, 4, 100000), INDEX);
        Bounds.refused("KIND", Bounds::rich, x -> x.mark(0, 4, NONE), KIND);
        Bounds.refused("KIND", Bounds::rich, x -> x.mark(0, 0, NONE), KIND);
        Bounds.refused("BAD", Bounds::rich, x -> x.mark(1, 0, 100000), BAD);
    }

    private static void marksOfShorts() {
        Bounds.sentence("of shorts its lowest 16 bits");
        int[] v = {0, 1, -1, 32766, 32767, 32768, 32769, -32767, -32768, -32769, 65535, 65536, 65537, -65536, HIGH, LOW, NONE - 1, NONE + 1, 99999, 100000};
        long[] want = {0, 1, -1, 32766, 32767, -32768, -32767, -32767, -32768, 32767, -1, 0, 1, 0, -1, 0, low16(NONE - 1), low16(NONE + 1), -31073, -31072};
        FineSlot x = new FineSlot();
        x.sheet(0, SHORTS, 20);
        for (int i = 0; i < v.length; i++) {
            Bounds.due("mark " + v[i], x.mark(0, i, v[i]), 1);
        }
        x.lay(0, 2, 0);
        for (int i = 0; i < v.length; i++) {
            Bounds.due("its lowest bits, " + v[i], x.item(0, i), want[i]);
        }
    }

    private static long low16(long v) {
        long rest = Math.floorMod(v, 65536L);
        return rest < 32768 ? rest : rest - 65536;
    }

    private static void marksOfFloats() {
        Bounds.sentence("of floats v, -99999 .. 99999; NONE: NO NUMBER");
        int[] v = {0, 1, -1, 32768, -32769, 65536, 99998, 99999, -99998, -99999, NONE};
        FineSlot x = new FineSlot();
        x.sheet(0, FLOATS, 11);
        for (int i = 0; i < v.length; i++) {
            Bounds.due("mark " + v[i], x.mark(0, i, v[i]), 1);
        }
        x.lay(0, 2, 0);
        for (int i = 0; i < v.length; i++) {
            Bounds.due("told " + v[i], x.item(0, i), v[i] == NONE ? KIND : v[i]);
        }
        Bounds.outside("v", -99999, 99999, Bounds::rich, (y, w) -> y.mark(1, 0, w), BAD);
        Bounds.outside("v in place of NO NUMBER", -99999, 99999, Bounds::rich, (y, w) -> y.mark(1, 1, w), BAD);
        Bounds.refused("next to NONE", Bounds::rich, y -> y.mark(1, 0, NONE + 1), BAD);
        Bounds.refused("next to NONE", Bounds::rich, y -> y.mark(1, 0, NONE - 1), BAD);
        x.mark(0, 10, 5);
        x.lay(0, 2, 0);
        Bounds.due("NO NUMBER becomes one again", x.item(0, 10), 5);
    }

    private static void whichPlace() {
        Bounds.sentence("INDEX: there is no such place");
        for (int n : new int[] {1, 2, 23, 24}) {
            for (int sort = 0; sort < 2; sort++) {
                int s = sort;
                Bounds.Steps one = x -> x.sheet(2, s, n);
                for (int place : new int[] {LOW, -1, n, n + 1, 24, HIGH}) {
                    Bounds.refused("place " + place + " of " + n, one, x -> x.mark(2, place, 7), INDEX);
                }
                FineSlot x = Bounds.made(one);
                Bounds.due("the first", x.mark(2, 0, 7), 1);
                Bounds.due("the last", x.mark(2, n - 1, 8), 1);
                x.lay(0, 2, 2);
                Bounds.due("the last", x.item(0, n - 1), 8);
                Bounds.due("the first", x.item(0, 0), n == 1 ? 8 : 7);
            }
        }
    }

    private static void learnRefuses() {
        Bounds.sentence("LEARNT. BAD; NOTHING; NONE: there are no SORTS.");
        Bounds.places("sheet", 3, (x, v) -> x.learn(v));
        Bounds.refused("NOTHING", Bounds::rich, x -> x.learn(2), NOTHING);
        Bounds.refused("NOTHING, ahead of NONE", Bounds::bare, x -> x.learn(0), NOTHING);
        Bounds.refused("BAD, ahead of NONE", Bounds::bare, x -> x.learn(4), BAD);
        Bounds.refused("NONE", x -> x.sheet(0, 1, 24), x -> x.learn(0), NONE);
        Bounds.refused("NONE of no places", x -> x.sheet(3, 0, 0), x -> x.learn(3), NONE);
        Bounds.refused("learn changes nothing", Bounds::rich, x -> x.learn(3), 0);
        Bounds.refused("learn changes nothing", Bounds::full, x -> x.learn(3) * 0, 0);
    }

    /** Three sorts: 100 on day 0; 50, 25, 12, 6, .. ; nothing at all. */
    private static FineSlot threeSorts() {
        FineSlot x = new FineSlot();
        x.sort(0, 0, 0);
        x.sort(0, 50, 0);
        x.sort(0, 100, 0);
        return x;
    }

    private static void learntOfSeveral() {
        Bounds.sentence("are least, together; of several the least");
        FineSlot x = threeSorts();
        x.sheet(0, SHORTS, 0);
        Bounds.due("no places: all are as near", x.learn(0), 0);
        x.sheet(0, SHORTS, 1);
        int[] v = {0, 24, 25, 26, 74, 75, 76, 100, 101, 32767, -1, -32768};
        int[] want = {2, 2, 1, 1, 1, 0, 0, 0, 0, 0, 2, 2};
        for (int i = 0; i < v.length; i++) {
            x.mark(0, 0, v[i]);
            Bounds.due(v[i] + " on day 0", x.learn(0), want[i]);
        }
        for (int i = 0; i < 6; i++) {
            FineSlot y = new FineSlot();
            for (int j = 0; j < 6; j++) {
                y.sort(0, j < i ? 0 : 100, 0);
            }
            y.sheet(0, SHORTS, 24);
            Bounds.due("the first of the same ones", y.learn(0), i);
        }
    }

    private static void learntFromNumbers() {
        Bounds.sentence("of its places k, which are numbers, k 0 .. 23");
        FineSlot x = threeSorts();
        x.sheet(0, FLOATS, 24);
        for (int k = 0; k < 24; k++) {
            x.mark(0, k, NONE);
        }
        Bounds.due("none is a number", x.learn(0), 0);
        x.mark(0, 0, 50);
        Bounds.due("one is: 50, 0, 50 apart", x.learn(0), 1);
        x.mark(0, 0, NONE);
        x.mark(0, 23, 1);
        Bounds.due("the last one is: all are 1 apart", x.learn(0), 0);
        x.mark(0, 1, 25);
        Bounds.due("day 1: 25, 0, 25 apart", x.learn(0), 1);
        x.mark(0, 0, 99999);
        x.mark(0, 1, NONE);
        Bounds.due("far off: 99899, 99949, 99999 apart", x.learn(0), 0);
        for (int k = 0; k < 24; k++) {
            x.mark(0, k, k % 2 == 0 ? 99999 : -99999);
        }
        Bounds.due("far off on all days", x.learn(0), 0);
        x.mark(0, 0, -99999);
        Bounds.due("far off on all days", x.learn(0), 2);
        for (int day : new int[] {0, 1, 22, 23, 24, 30}) {
            FineSlot y = new FineSlot();
            y.sort(1, 0, 0);
            y.sort(1, 99, 0);
            Bounds.text(y, "forget 100 * (f > 50 & d < " + day + ")");
            y.sheet(0, SHORTS, 24);
            y.mark(0, day, 100);
            Bounds.due("all on day " + day, y.learn(0), day == 0 ? 0 : 1);
            y.mark(0, day, 0);
            y.mark(0, 0, 100);
            Bounds.due("all on day 0", y.learn(0), 0);
        }
    }

    private static void learntCut() {
        Bounds.sentence("BROUGHT of the day k / 10000 (cut)");
        FineSlot x = new FineSlot();
        // On day 2 of 50 in 100 it is 125000, on day 3 62500, on day 4 31250, on day 6 7812.
        x.sort(0, 50, 0);
        x.sort(0, 100, 0);
        int[] cut = {50, 25, 12, 6, 3, 1, 0};
        for (int day = 0; day < 7; day++) {
            FineSlot y = new FineSlot();
            y.sort(0, 100, 0);
            y.sort(0, 50, 0);
            y.sheet(0, FLOATS, 24);
            for (int k = 0; k < 24; k++) {
                y.mark(0, k, k == day ? cut[day] : NONE);
            }
            Bounds.due("just as much on day " + day, y.learn(0), cut[day] > 0 ? 1 : 0);
            y.mark(0, day, cut[day] / 2);
            Bounds.due("half on day " + day, y.learn(0), 0);
            y.mark(0, day, cut[day] / 2 + 1);
            Bounds.due("more than half on day " + day, y.learn(0), cut[day] > 0 ? 1 : 0);
        }
        // On day 2 sort 0 brings 90000, sort 1 brings 89999.
        FineSlot near = new FineSlot();
        near.sort(0, 0, 0);
        near.sort(0, 1, 0);
        Bounds.text(near, "forget (f=1)*((d=0)*23+(d=1)*43+(d=2)*9)+(f=0)*(91+9*(d<2))");
        Bounds.due("sort 0", near.reader(0, 2, 5), 90000);
        Bounds.due("sort 1", near.reader(1, 2, 5), 89999);
        near.sheet(0, FLOATS, 3);
        near.mark(0, 0, NONE);
        near.mark(0, 1, NONE);
        for (int v = 7; v <= 10; v++) {
            near.mark(0, 2, v);
            Bounds.due(v + " is nearer to 8 than to 9", near.learn(0), v <= 8 ? 1 : 0);
        }
        Bounds.sentence("the differences (their signs left out)");
        x.sheet(0, FLOATS, 2);
        x.mark(0, 0, 100);
        x.mark(0, 1, -25);
        Bounds.due("50 and 50, 100 and 25", x.learn(0), 0);
        x.mark(0, 0, 49);
        x.mark(0, 1, -26);
        Bounds.due("1 and 51, 49 and 26", x.learn(0), 0);
        x.mark(0, 0, 25);
        x.mark(0, 1, 12);
        Bounds.due("25 and 13, 25 and 12", x.learn(0), 1);
    }

    private static void readsRefuses() {
        Bounds.sentence("BAD; NOTHING; NONE: there is none.");
        Bounds.numbers("rule", 1, (x, v) -> x.reads(3, v));
        Bounds.outside("sheet", 0, 3, Bounds::rich, (x, v) -> x.reads(v, 0), BAD);
        Bounds.outside("sheet", 0, 3, Bounds::full, (x, v) -> x.reads(v, 7), BAD);
        Bounds.refused("rule, ahead of NOTHING", Bounds::rich, x -> x.reads(2, 3), BAD);
        Bounds.refused("rule, ahead of NOTHING", Bounds::bare, x -> x.reads(0, 0), BAD);
        Bounds.refused("NOTHING", Bounds::rich, x -> x.reads(2, 0), NOTHING);
        Bounds.refused("NONE of no places", Bounds::rich, x -> x.reads(3, 0), NONE);
        Bounds.refused("reads changes nothing", Bounds::rich, x -> x.reads(0, 0), 0);
    }

    private static void readsTheFirstPlace() {
        Bounds.sentence("The first place (of numbers alone) at which a SHEET is not OWES of that day by a RULE.");
        FineSlot x = new FineSlot();
        x.rule(1, 3, 0, 1);
        x.rule(1, 4, 0, 1);
        x.sheet(0, FLOATS, 24);
        for (int k = 0; k < 24; k++) {
            x.mark(0, k, 3 * k);
        }
        Bounds.due("none", x.reads(0, 0), NONE);
        Bounds.due("by another RULE", x.reads(0, 1), 1);
        for (int k : new int[] {23, 22, 12, 1, 0}) {
            x.mark(0, k, 3 * k + 1);
            Bounds.due("one too much at " + k, x.reads(0, 0), k);
            x.mark(0, k, 3 * k - 1);
            Bounds.due("one too little at " + k, x.reads(0, 0), k);
        }
        for (int k : new int[] {0, 1, 12, 22}) {
            x.mark(0, k, NONE);
            Bounds.due("not a number at " + k, x.reads(0, 0), k == 0 ? 1 : k == 1 ? 12 : k == 12 ? 22 : 23);
        }
        x.mark(0, 23, NONE);
        Bounds.due("not a number at 23", x.reads(0, 0), NONE);
        x.sheet(0, SHORTS, 23);
        Bounds.due("0 on day 0", x.reads(0, 0), 1);
        x.sheet(0, SHORTS, 1);
        Bounds.due("one place", x.reads(0, 0), NONE);
        // 30 * 999 does not fit; on day 23 it is 22977, which fits a short.
        Bounds.text(x, "owe 999");
        x.sheet(0, SHORTS, 24);
        for (int k = 0; k < 24; k++) {
            x.mark(0, k, 999 * k + 65536);
        }
        Bounds.due("most of shorts", x.reads(0, 0), NONE);
    }

    private static void copyRefuses() {
        Bounds.sentence("BAD; NOTHING; KIND: they are not of one sort; INDEX.");
        Bounds.places("from", 3, (x, v) -> x.copy(v, 0, 0, 0, 0));
        Bounds.places("to", 3, (x, v) -> x.copy(0, 0, v, 0, 0));
        Bounds.refused("BAD from, ahead of NOTHING", Bounds::rich, x -> x.copy(4, 0, 2, 0, 0), BAD);
        Bounds.refused("BAD to, ahead of NOTHING", Bounds::rich, x -> x.copy(2, 0, 4, 0, 0), BAD);
        Bounds.refused("NOTHING from, ahead of INDEX", Bounds::rich, x -> x.copy(2, -1, 0, -1, -1), NOTHING);
        Bounds.refused("NOTHING to, ahead of INDEX", Bounds::rich, x -> x.copy(1, 9, 2, 9, 9), NOTHING);
        Bounds.refused("NOTHING to itself", Bounds::rich, x -> x.copy(2, 0, 2, 0, 0), NOTHING);
        Bounds.refused("KIND", Bounds::rich, x -> x.copy(0, 0, 1, 0, 1), KIND);
        Bounds.refused("KIND", Bounds::rich, x -> x.copy(1, 0, 0, 0, 1), KIND);
        Bounds.refused("KIND of no places", Bounds::rich, x -> x.copy(0, 0, 1, 0, 0), KIND);
        Bounds.refused("KIND, ahead of INDEX", Bounds::rich, x -> x.copy(0, -1, 1, 99, -5), KIND);
    }

    private static void copyWithinItsBounds() {
        Bounds.sentence("So many places of a SHEET come to another one (or the same)");
        Bounds.sentence("(From a SHEET, its place, to a SHEET, its place.)");
        int[] ends = {LOW, -1, 0, 1, 2, 3, 4, 5, 6, HIGH};
        for (int place : ends) {
            for (int at : ends) {
                for (int many : ends) {
                    copyOnce(place, at, many);
                }
            }
        }
        Bounds.refused("one place too many", SheetsBoundsTest::rows, x -> x.copy(0, 0, 0, 0, 6), INDEX);
        Bounds.refused("one place too many, from", SheetsBoundsTest::rows, x -> x.copy(0, 1, 0, 0, 5), INDEX);
        Bounds.refused("one place too many, to", SheetsBoundsTest::rows, x -> x.copy(0, 0, 0, 1, 5), INDEX);
        Bounds.refused("to no places", SheetsBoundsTest::rows, x -> x.copy(0, 0, 3, 0, 1), INDEX);
        Bounds.refused("from no places", SheetsBoundsTest::rows, x -> x.copy(3, 0, 0, 0, 1), INDEX);
        Bounds.refused("none of no places", SheetsBoundsTest::rows, x -> x.copy(3, 0, 3, 0, 0), 0);
        Bounds.refused("none, at the end", SheetsBoundsTest::rows, x -> x.copy(0, 5, 0, 5, 0), 0);
        Bounds.refused("none, behind the end", SheetsBoundsTest::rows, x -> x.copy(0, 6, 0, 0, 0), INDEX);
        Bounds.refused("none, behind the end", SheetsBoundsTest::rows, x -> x.copy(0, 0, 0, 6, 0), INDEX);
        Bounds.refused("fewer than none", SheetsBoundsTest::rows, x -> x.copy(0, 2, 0, 2, -1), INDEX);
        Bounds.refused("sums that wrap", SheetsBoundsTest::rows, x -> x.copy(0, HIGH, 0, HIGH, HIGH), INDEX);
        Bounds.refused("sums that wrap", SheetsBoundsTest::rows, x -> x.copy(0, 1, 0, 1, HIGH), INDEX);
        Bounds.refused("sums that wrap", SheetsBoundsTest::rows, x -> x.copy(0, LOW, 0, LOW, LOW), INDEX);
    }

    /** Five places of which some come to others of the same row, against a row copied here. */
    private static void copyOnce(int place, int at, int many) {
        FineSlot x = new FineSlot();
        x.sheet(0, SHORTS, 5);
        for (int k = 0; k < 5; k++) {
            x.mark(0, k, k + 1);
        }
        long[] row = {1, 2, 3, 4, 5};
        boolean fits = place >= 0 && at >= 0 && many >= 0 && (long) place + many <= 5 && (long) at + many <= 5;
        String name = "copy " + place + " to " + at + ", " + many;
        Bounds.due(name, x.copy(0, place, 0, at, many), fits ? many : INDEX);
        for (int k = 0; fits && k < many; k++) {
            row[at + k] = place + k + 1;
        }
        x.lay(0, 2, 0);
        for (int k = 0; k < 5; k++) {
            Bounds.due(name + ", place " + k, x.item(0, k), row[k]);
        }
    }

    private static void copyAsTheyWere() {
        Bounds.sentence("as they were: many");
        FineSlot x = Bounds.made(SheetsBoundsTest::rows);
        x.copy(0, 0, 0, 1, 4);
        row("to the right", places(x, 0), "1 1 2 3 4");
        x = Bounds.made(SheetsBoundsTest::rows);
        x.copy(0, 1, 0, 0, 4);
        row("to the left", places(x, 0), "2 3 4 5 5");
        x = Bounds.made(SheetsBoundsTest::rows);
        x.sheet(2, FLOATS, 24);
        Bounds.due("NO NUMBER comes along", x.copy(1, 1, 2, 22, 2), 2);
        row("NO NUMBER", places(x, 2), "0 ".repeat(22) + "? -99999");
        row("from where it comes it stays", places(x, 1), "5 ? -99999 0");
        x.sheet(3, SHORTS, 24);
        Bounds.due("a whole row", x.copy(0, 0, 3, 19, 5), 5);
        row("at the end", places(x, 3), "0 ".repeat(19) + "1 2 3 4 5");
        x.mark(0, 0, 77);
        row("they are its own", places(x, 3), "0 ".repeat(19) + "1 2 3 4 5");
        Bounds.due("all of 24", x.copy(3, 0, 3, 0, 24), 24);
        Bounds.due("25", x.copy(3, 0, 3, 0, 25), INDEX);
    }

    private static void layRefuses() {
        Bounds.sentence("BAD: slot, thing, k; NOTHING: that SHEET is MISSING.");
        Bounds.places("slot", 4, (x, v) -> x.lay(v, 0, 0));
        Bounds.places("slot", 4, (x, v) -> x.lay(v, 3, 0));
        Bounds.outside("thing", 0, 3, Bounds::rich, (x, v) -> x.lay(1, v, 0), BAD);
        Bounds.outside("thing", 0, 3, Bounds::full, (x, v) -> x.lay(4, v, 0), BAD);
        for (int slot = 0; slot < 5; slot++) {
            int s = slot;
            Bounds.numbers("RULE k", 1, (x, v) -> x.lay(s, 1, v));
            Bounds.outside("SHEET k", 0, 3, Bounds::rich, (x, v) -> x.lay(s, 2, v), BAD);
            Bounds.refused("NOTHING", Bounds::rich, x -> x.lay(s, 2, 2), NOTHING);
        }
        Bounds.refused("NOTHING, bare", Bounds::bare, x -> x.lay(0, 2, 3), NOTHING);
        Bounds.refusedAnywhere("slot, ahead of NOTHING", x -> x.lay(5, 2, 2), BAD);
        Bounds.refused("nothing in place of nothing", Bounds::rich, x -> x.lay(0, 0, LOW), 0);
    }

    private static void layHolds() {
        Bounds.sentence("A SLOT holds: thing 0 nothing, 1 RULE k, 2 SHEET k, 3 the number k: what it held (0 .. 3).");
        int[] k = {HIGH, 2, 3, LOW};
        for (int slot = 0; slot < 5; slot++) {
            for (int from = 0; from < 4; from++) {
                for (int to = 0; to < 4; to++) {
                    FineSlot x = Bounds.made(Bounds::rich);
                    x.lay(slot, from, k[from]);
                    Bounds.due("lay", x.lay(slot, to, k[to]), from);
                    Bounds.due("a RULE", x.ask(slot, 0), to == 0 ? NOTHING : to == 1 ? 13 : KIND);
                    Bounds.due("a SHEET", x.item(slot, 0), to == 0 ? NOTHING : to == 2 ? INDEX : KIND);
                    Bounds.due("a number", x.rest(slot, HIGH), to == 0 ? NOTHING : to == 3 ? -1 : KIND);
                    Bounds.due("again", x.lay(slot, to, k[to]), to);
                }
            }
        }
        FineSlot x = new FineSlot();
        for (int slot = 0; slot < 5; slot++) {
            x.lay(slot, 3, 100 + slot);
        }
        for (int slot = 0; slot < 5; slot++) {
            Bounds.due("each its own", x.rest(slot, 1000), 100 + slot);
        }
        x.lay(2, 0, 0);
        Bounds.due("the one ahead", x.rest(1, 1000), 101);
        Bounds.due("the one behind", x.rest(3, 1000), 103);
    }

    private static void laidAsItWas() {
        Bounds.sentence("a RULE (as it is then, for good), a SHEET (a row of its own, as it was then)");
        FineSlot x = Bounds.made(SheetsBoundsTest::rows);
        x.lay(0, 1, 2);
        x.turns(2, 5);
        x.set(2, 1, 999);
        x.set(2, 2, 30);
        Bounds.due("its WORTH", x.ask(0, 4), 13);
        x.back();
        Bounds.due("its WORTH, where there is no such RULE any more", x.ask(0, 4), 13);
        x.lay(0, 2, 0);
        x.lay(1, 2, 0);
        x.mark(0, 0, 50);
        x.copy(0, 0, 0, 1, 4);
        x.sheet(0, FLOATS, 2);
        x.sheet(0, -1, 0);
        for (int k = 0; k < 5; k++) {
            Bounds.due("its places", x.item(0, k), k + 1);
            Bounds.due("its places", x.item(1, k), k + 1);
        }
        Bounds.due("no more", x.item(0, 5), INDEX);
    }

    private static void askRefuses() {
        Bounds.sentence("BAD; NOTHING; KIND: it is no RULE, or not of that KIND, nor of one under it.");
        Bounds.places("slot", 4, (x, v) -> x.ask(v, 0));
        for (int slot = 0; slot < 5; slot++) {
            int s = slot;
            Bounds.outside("kind, ahead of NOTHING", 0, 5, Bounds::bare, (x, v) -> x.ask(s, v), BAD);
            Bounds.outside("kind, ahead of KIND", 0, 5, Bounds::rich, (x, v) -> x.ask(s, v), BAD);
            Bounds.refused("NOTHING", Bounds::bare, x -> x.ask(s, 5), NOTHING);
        }
        Bounds.refused("no RULE, a SHEET", Bounds::rich, x -> x.ask(2, 0), KIND);
        Bounds.refused("no RULE, a number", Bounds::rich, x -> x.ask(3, 0), KIND);
        Bounds.refused("not of that KIND", Bounds::rich, x -> x.ask(1, 1), KIND);
        Bounds.refused("of one above", Bounds::rich, x -> x.ask(1, 2), 13);
    }

    private static void askWorth() {
        Bounds.sentence("WORTH of the RULE in a SLOT, taken for one of a KIND (0 .. 5).");
        String[] above = {"0", "01", "02", "013", "024", "05"};
        long[] worth = {7, 27, 20, 24, 23, 1};
        for (int kind = 0; kind < 6; kind++) {
            FineSlot x = new FineSlot();
            x.rule(kind, 7, 20, 3);
            x.lay(4, 1, 0);
            for (int k = 0; k < 6; k++) {
                Bounds.due(kind + " for " + k, x.ask(4, k), above[kind].indexOf('0' + k) >= 0 ? worth[kind] : KIND);
            }
        }
        FineSlot x = new FineSlot();
        x.rule(3, 0, 0, 30);
        x.rule(1, 99, 999, 30);
        x.lay(0, 1, 0);
        x.lay(4, 1, 1);
        Bounds.due("the least", x.ask(0, 0), -30);
        Bounds.due("the most", x.ask(4, 0), 1098);
    }

    private static void itemRefuses() {
        Bounds.sentence("BAD: slot; NOTHING; KIND: it is no SHEET; INDEX; KIND: NO NUMBER.");
        Bounds.places("slot", 4, (x, v) -> x.item(v, 0));
        Bounds.refusedAnywhere("BAD, ahead of all", x -> x.item(5, -1), BAD);
        Bounds.refused("NOTHING, ahead of INDEX", Bounds::rich, x -> x.item(0, -1), NOTHING);
        Bounds.refused("a RULE, ahead of INDEX", Bounds::rich, x -> x.item(1, 99), KIND);
        Bounds.refused("a number, ahead of INDEX", Bounds::rich, x -> x.item(3, -1), KIND);
        Bounds.outside("INDEX", 0, 4, Bounds::rich, (x, v) -> x.item(2, v), INDEX);
        Bounds.outside("INDEX", 0, 3, Bounds::rich, (x, v) -> x.item(4, v), INDEX);
        Bounds.outside("INDEX", 0, 23, Bounds::full, (x, v) -> x.item(3, v), INDEX);
        Bounds.refused("NO NUMBER", Bounds::rich, x -> x.item(4, 1), KIND);
        Bounds.refused("ahead of it", Bounds::rich, x -> x.item(4, 0), 5);
        Bounds.refused("behind it", Bounds::rich, x -> x.item(4, 2), -99999);
        Bounds.refused("the first", Bounds::full, x -> x.item(3, 0), 43);
        Bounds.refused("the last", Bounds::full, x -> x.item(3, 23), -43);
        FineSlot x = Bounds.made(Bounds::rich);
        x.lay(0, 2, 3);
        Bounds.due("of no places", x.item(0, 0), INDEX);
    }

    private static void restRefuses() {
        Bounds.sentence("BAD: slot; NOTHING; KIND: it is no number; NO: n is 0.");
        Bounds.places("slot", 4, (x, v) -> x.rest(v, 1));
        Bounds.refusedAnywhere("BAD, ahead of NO", x -> x.rest(5, 0), BAD);
        Bounds.refusedAnywhere("BAD, ahead of NO", x -> x.rest(-1, 0), BAD);
        Bounds.refused("NOTHING, ahead of NO", Bounds::rich, x -> x.rest(0, 0), NOTHING);
        Bounds.refused("a RULE, ahead of NO", Bounds::rich, x -> x.rest(1, 0), KIND);
        Bounds.refused("a SHEET, ahead of NO", Bounds::rich, x -> x.rest(2, 0), KIND);
        Bounds.refused("NO", Bounds::rich, x -> x.rest(3, 0), NO);
        Bounds.refused("by 1", Bounds::rich, x -> x.rest(3, 1), 0);
        Bounds.refused("by -1", Bounds::rich, x -> x.rest(3, -1), 0);
        Bounds.refused("by 5", Bounds::rich, x -> x.rest(3, 5), -2);
    }

    private static void restOfANumber() {
        Bounds.sentence("The rest of the number in a SLOT by n.");
        int[][] rows = {{0, 1, 0}, {0, -1, 0}, {0, HIGH, 0}, {7, 7, 0}, {7, 8, 7}, {7, 6, 1}, {-7, 7, 0}, {-7, 6, -1}, {-7, -6, -1},
            {7, -6, 1}, {HIGH, HIGH, 0}, {HIGH, LOW, HIGH}, {HIGH, 2, 1}, {LOW, -1, 0}, {LOW, 1, 0}, {LOW, LOW, 0}, {LOW, HIGH, -1},
            {LOW, 2, 0}, {LOW + 1, 2, -1}, {NONE, 10, -5}, {BAD, 10, -1}};
        for (int[] row : rows) {
            FineSlot x = new FineSlot();
            x.lay(4, 3, row[0]);
            Bounds.due(row[0] + " by " + row[1], x.rest(4, row[1]), row[2]);
        }
    }
}
