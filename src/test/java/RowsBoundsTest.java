/** The boundary sentences of images and THE READERS TOLD in "5 SHEETS", and of promises 38 to 42. */
public final class RowsBoundsTest {
    private static final int BAD = Bounds.BAD, NO = Bounds.NO, FULL = Bounds.FULL, NONE = Bounds.NONE;

    public static void main(String[] args) {
        sixtyWait();
        checkRefuses();
        noneWaitThen();
        howMany();
        theFirstThatIsNot();
        missingOrTooMany();
        readersTold();
        byTheImage();
        keeping();
        keepingFullRows();
        backRefuses();
        backAgainAndAgain();
        allButSheets();
        counting();
        Bounds.end();
    }

    private static void tell(FineSlot x, int... all) {
        for (int v : all) {
            x.tell(v);
        }
    }

    private static void sixtyWait() {
        Bounds.sentence("One more number waits: how many. FULL: 60 wait.");
        FineSlot x = new FineSlot();
        for (int n = 1; n <= 60; n++) {
            Bounds.due("tell", x.tell(n % 2 == 0 ? Bounds.LOW : Bounds.HIGH), n);
            Bounds.due("how many", x.count(5), n);
        }
        for (int i = 0; i < 3; i++) {
            Bounds.due("the next one", x.tell(5), FULL);
            Bounds.due("how many", x.count(5), 60);
        }
        Bounds.refused("the next one", Bounds::full, y -> y.tell(5), FULL);
        x.check(0);
        Bounds.due("one again", x.tell(5), 1);
    }

    private static void checkRefuses() {
        Bounds.sentence("BAD; NO: there is no IMAGE, or it has no SORTS.");
        for (int n : new int[] {Bounds.LOW, -1, 0, 31, Bounds.HIGH}) {
            Bounds.refused("n " + n, Bounds::bare, x -> x.check(n), BAD);
            Bounds.leaves("n " + n, Bounds::rich, x -> x.check(n), BAD, RowsBoundsTest::forget);
            Bounds.leaves("n " + n, Bounds::full, x -> x.check(n), BAD, RowsBoundsTest::forget);
        }
        for (int n : new int[] {1, 2, 29, 30}) {
            Bounds.refused("no IMAGE", Bounds::bare, x -> x.check(n), NO);
            Bounds.refused("it has no SORTS", x -> x.keep(), x -> x.check(n), NO);
        }
        FineSlot x = new FineSlot();
        x.sort(1, 0, 0);
        Bounds.due("SORTS, but no IMAGE", x.check(1), NO);
        x = new FineSlot();
        x.keep();
        x.sort(1, 0, 0);
        Bounds.due("SORTS, but none in THE IMAGE", x.check(1), NO);
        x.keep();
        tell(x, 0, 0);
        Bounds.due("SORTS in THE IMAGE", x.check(1), 0);
        x.keep();
        Bounds.due("BAD ahead of NO", new FineSlot().check(31), BAD);
    }

    /** What check() does beside its answer, by a check that compares nothing. */
    private static void forget(FineSlot x) {
        x.check(30);
    }

    private static void noneWaitThen() {
        Bounds.sentence("The numbers that wait (none do then, whatever is answered)");
        int[] n = {1, 3, 2, 4, 0, 31};
        long[] want = {3, 0, 5, 7, BAD, BAD};
        for (int i = 0; i < n.length; i++) {
            FineSlot x = Bounds.made(Bounds::rich);
            Bounds.due("check " + n[i], x.check(n[i]), want[i]);
            Bounds.due("none waits", x.count(5), 0);
            Bounds.due("the next is the first", x.tell(9), 1);
        }
        FineSlot x = new FineSlot();
        tell(x, 1, 2, 3);
        Bounds.due("NO", x.check(1), NO);
        Bounds.due("none waits", x.count(5), 0);
    }

    private static void howMany() {
        Bounds.sentence("are THE READERS TOLD of n (1 .. 30), two by two: 0");
        for (int n : new int[] {1, 2, 3, 15, 29, 30}) {
            FineSlot x = Bounds.made(Bounds::rich);
            x.check(0);
            for (int i = 0; i < n; i++) {
                tell(x, i % 2 == 0 ? 0 : -1, i % 2 == 0 ? 5 : 0);
            }
            Bounds.due("readers " + n, x.check(n), 0);
            Bounds.due("none waits", x.count(5), 0);
            Bounds.due("all are missing now", x.check(n), 1);
        }
        Bounds.due("30 readers, 60 numbers", Bounds.made(Bounds::full).check(30), 0);
        Bounds.due("29 readers, 60 numbers", Bounds.made(Bounds::full).check(29), 59);
    }

    private static void theFirstThatIsNot() {
        Bounds.sentence("else 1 and how many stand right ahead of the first that is not");
        for (int wrong = 0; wrong < 60; wrong++) {
            for (int by : new int[] {-1, 1}) {
                FineSlot x = Bounds.made(Bounds::rich);
                x.check(0);
                for (int i = 0; i < 60; i++) {
                    int right = i % 4 == 0 ? 0 : i % 4 == 1 ? 5 : i % 4 == 2 ? -1 : 0;
                    x.tell(i == wrong || i == 59 ? right + by : right);
                }
                Bounds.due("wrong at " + wrong, x.check(30), wrong + 1);
            }
        }
    }

    private static void missingOrTooMany() {
        Bounds.sentence("(or is missing, or one too many)");
        for (int n = 1; n <= 30; n++) {
            for (int told = Math.max(0, 2 * n - 2); told <= Math.min(60, 2 * n + 2); told++) {
                FineSlot x = Bounds.made(Bounds::rich);
                x.check(0);
                for (int i = 0; i < told; i++) {
                    x.tell(i % 4 == 0 ? 0 : i % 4 == 1 ? 5 : i % 4 == 2 ? -1 : 0);
                }
                long want = told == 2 * n ? 0 : Math.min(told, 2 * n) + 1;
                Bounds.due(told + " numbers for " + n, x.check(n), want);
            }
        }
        // What waited before must not be taken for what waits now.
        FineSlot x = Bounds.made(Bounds::rich);
        x.check(0);
        tell(x, 0, 5);
        Bounds.due("two of six", x.check(3), 3);
        tell(x, 0);
        Bounds.due("one of six", x.check(3), 2);
        Bounds.due("none of six", x.check(3), 1);
    }

    private static void readersTold() {
        Bounds.sentence("n READERS that are drawn, of the SORTS 0, 1, .., round and round, one behind the other, by THE IMAGE: the day (-1: NONE), and OWES of it (0)");
        for (int sorts = 1; sorts <= 6; sorts++) {
            FineSlot x = new FineSlot();
            x.rule(0, 0, 0, 1);
            x.force(0);
            // Sort i brings on day 6 * i; the last one, on day 30, for that.
            for (int i = 0; i < sorts; i++) {
                x.sort(0, 6 * i, 0);
            }
            Bounds.text(x, "forget 100 * (d < f)");
            Bounds.text(x, "owe d * 2 + 1");
            x.keep();
            for (int i = 0; i < 30; i++) {
                tell(x, i % sorts * 6, i % sorts * 12 + 1);
            }
            Bounds.due(sorts + " SORTS", x.check(30), 0);
            Bounds.due("z stays", x.count(7), 1);
        }
        FineSlot x = new FineSlot();
        x.sort(0, 0, 1);
        x.change(0, 6, 0);
        x.rule(0, 7, 0, 1);
        x.force(0);
        x.keep();
        tell(x, -1, 0, -1, 0);
        Bounds.due("NONE, and 0", x.check(2), 0);
        tell(x, -1, 7);
        Bounds.due("NONE owes nothing", x.check(1), 2);
        tell(x, NONE, 0);
        Bounds.due("NONE is told as -1", x.check(1), 1);
    }

    private static void byTheImage() {
        Bounds.sentence("by THE IMAGE");
        FineSlot x = new FineSlot();
        x.sort(9, 60, 0);
        x.rule(1, 3, 0, 1);
        x.force(0);
        x.seed(-7);
        x.keep();
        int[] days = new int[8];
        for (int i = 0; i < 8; i++) {
            days[i] = x.run(0);
        }
        x.seed(123);
        x.change(0, 1, 0);
        x.set(0, 0, 50);
        x.card(0);
        x.force(NONE);
        Bounds.text(x, "forget 1");
        x.sort(1, 1, 1);
        for (int again = 0; again < 2; again++) {
            for (int i = 0; i < 8; i++) {
                tell(x, days[i], 3 * days[i]);
            }
            Bounds.due("one behind the other", x.check(8), 0);
            Bounds.due("z stays", x.count(7), 123);
        }
        x.back();
        Bounds.due("z of THE IMAGE stays", x.count(7), -7);
        Bounds.leaves("check changes nothing else", Bounds::rich, y -> y.check(3), 0, y -> y.check(0));
        Bounds.leaves("check changes nothing else", Bounds::full, y -> y.check(7), 15, y -> y.check(0));
    }

    private static void keeping() {
        Bounds.sentence("AN IMAGE is kept: how many SORTS.");
        FineSlot x = new FineSlot();
        for (int n = 0; n <= 6; n++) {
            Bounds.due("keep", x.keep(), n);
            Bounds.due("keep again", x.keep(), n);
            Bounds.due("back", x.back(), n);
            x.sort(1, 1, 1);
        }
        Bounds.leaves("keep and back", Bounds::full, y -> y.keep() * 10 + y.back(), 66, y -> y.keep());
    }

    private static void keepingFullRows() {
        Bounds.sentence("AN IMAGE keeps all but SHEETS, SLOTS, numbers that wait, THE TAPE");
        FineSlot x = Bounds.made(Bounds::full);
        x.keep();
        long[] before = world(x);
        for (int i = 0; i < 6; i++) {
            x.change(i, i, 1);
        }
        for (int i = 0; i < 8; i++) {
            x.turns(i, 0);
            x.set(i, i % 3, 9);
        }
        x.force(NONE);
        x.card(NONE);
        x.seed(0);
        Bounds.due("back", x.back(), 6);
        long[] behind = world(x);
        for (int i = 0; i < before.length; i++) {
            Bounds.due("row " + i, behind[i], before[i]);
        }
    }

    private static long[] world(FineSlot x) {
        long[] all = new long[42 + 32 + 8 + 3 + 4];
        int n = 0;
        for (int i = 0; i < 42; i++) {
            all[n++] = x.sortTold(i / 7, i % 7);
        }
        for (int i = 0; i < 32; i++) {
            all[n++] = x.told(i / 4, i % 4);
        }
        for (int i = 0; i < 8; i++) {
            all[n++] = x.count(i);
        }
        for (int i = 0; i < 3; i++) {
            all[n++] = x.why(i);
        }
        for (int i = 0; i < 4; i++) {
            all[n++] = x.library(i);
        }
        return all;
    }

    private static void backRefuses() {
        Bounds.sentence("All is as THE IMAGE: how many SORTS. NO: there is none.");
        Bounds.refused("none", Bounds::bare, x -> x.back(), NO);
        Bounds.refused("none", RowsBoundsTest::withoutImage, x -> x.back(), NO);
        FineSlot x = new FineSlot();
        x.keep();
        Bounds.due("an empty one", x.back(), 0);
        x = Bounds.made(Bounds::full);
        Bounds.due("back", x.back(), 2);
        long[] counts = {2, 1, 0, NONE, 0, 60, 96, 11};
        for (int what = 0; what < 8; what++) {
            Bounds.due("count " + what, x.count(what), counts[what]);
        }
        Bounds.due("the third SORT", x.sortTold(2, 0), BAD);
        Bounds.due("the second RULE", x.told(1, 0), BAD);
        Bounds.due("the first TEXT", x.textTold(0, 0), BAD);
        for (int key = 0; key < 3; key++) {
            Bounds.due("why " + key, x.why(key), NONE);
        }
    }

    private static void withoutImage(FineSlot x) {
        x.sort(1, 2, 3);
        x.rule(1, 2, 3, 4);
        x.force(0);
        x.card(5);
        Bounds.text(x, "owe d");
        x.tell(7);
        x.sheet(0, 0, 2);
        x.lay(0, 3, 4);
        Bounds.feed(x, "owe a");
    }

    private static void backAgainAndAgain() {
        Bounds.sentence("all can become as it is (again and again)");
        FineSlot x = Bounds.made(RowsBoundsTest::withoutImage);
        x.keep();
        for (int i = 0; i < 5; i++) {
            x.deal(6);
            x.change(0, 0, 50 + i);
            x.rule(0, 9, 9, 9);
            x.set(0, 0, 60 + i);
            x.turns(0, 4);
            x.force(1);
            x.card(NONE);
            Bounds.text(x, "owe 99");
            Bounds.text(x, "shame 99");
            x.year();
            Bounds.due("back", x.back(), 1);
            Bounds.due("MANY", x.sortTold(0, 0), 1);
            Bounds.due("a", x.told(0, 1), 2);
            Bounds.due("KIND", x.told(0, 0), 1);
            Bounds.due("RULES", x.count(1), 1);
            Bounds.due("THE RULE", x.count(2), 0);
            Bounds.due("THE CARD", x.count(3), 5);
            Bounds.due("TEXTS", x.count(4), 1);
            Bounds.due("z", x.count(7), 1);
            Bounds.due("owe", x.why(0), 0);
            Bounds.due("shame", x.why(1), NONE);
            Bounds.due("OWES", x.owes(0, 6), 36);
            Bounds.due("back at once", x.back(), 1);
        }
    }

    private static void allButSheets() {
        Bounds.sentence("AN IMAGE keeps all but SHEETS, SLOTS, numbers that wait, THE TAPE");
        FineSlot x = Bounds.made(Bounds::rich);
        x.back();
        Bounds.due("numbers that wait", x.count(5), 6);
        Bounds.due("they are the same", x.check(3), 0);
        Bounds.due("THE TAPE", x.count(6), 13);
        Bounds.due("it is the same", x.text(), 0);
        Bounds.due("OWES by it: b and d * 2, and b", x.owes(0, 4), 3 + 8 + 3);
        Bounds.due("a number in a SLOT", x.rest(3, 100), -17);
        Bounds.due("a RULE in a SLOT", x.ask(1, 4), 13);
        Bounds.due("a SHEET in a SLOT", x.item(4, 2), -99999);
        x.lay(0, 2, 0);
        Bounds.due("a SHEET", x.item(0, 4), 32767);
        x.lay(0, 2, 1);
        Bounds.due("a SHEET", x.item(0, 2), -99999);
    }

    private static void counting() {
        Bounds.sentence("How many: 0 SORTS, 1 RULES, 2 THE RULE (NONE), 3 THE CARD (NONE), 4 TEXTS, 5 numbers that wait, 6 bytes of THE TAPE, 7 z. BAD.");
        Bounds.outside("what", 0, 7, Bounds::bare, (x, v) -> x.count(v), BAD);
        Bounds.outside("what", 0, 7, Bounds::rich, (x, v) -> x.count(v), BAD);
        Bounds.outside("what", 0, 7, Bounds::full, (x, v) -> x.count(v), BAD);
        long[] ofBare = {0, 0, NONE, NONE, 0, 0, 0, 1};
        long[] ofRich = {3, 3, 1, 12, 3, 6, 13, 77};
        long[] ofFull = {6, 8, 7, 30, 14, 60, 96};
        for (int what = 0; what < 8; what++) {
            int w = what;
            Bounds.refused("count " + w, Bounds::bare, x -> x.count(w), ofBare[w]);
            Bounds.refused("count " + w, Bounds::rich, x -> x.count(w), ofRich[w]);
            if (w < 7) {
                Bounds.refused("count " + w, Bounds::full, x -> x.count(w), ofFull[w]);
            }
        }
    }
}
