/** The boundary sentences of "1 DAYS late", rules, and of promises 6 to 13. */
public final class RulesBoundsTest {
    private static final int BAD = Bounds.BAD, FULL = Bounds.FULL, NONE = Bounds.NONE, KIND = Bounds.KIND;
    private static final int RULE = 0, DAILY = 1, FLAT = 2, CAPPED = 3, FORGIVING = 4, PARDON = 5;
    private static final int[] LEAST = {0, 0, 1};
    private static final int[] MOST = {99, 999, 30};
    /** Held below 0 and above what an int holds: 2048 * 1024 * 1024 wraps to the least int, less 1 to the most. */
    private static final String LEAST_INT = "2048*1024*1024", MOST_INT = "2048*1024*1024-1";

    public static void main(String[] args) {
        eightAtMost();
        whatARuleMayBe();
        whatIsRefusedFirst();
        telling();
        worthAtItsEnds();
        asAKind();
        turning();
        setting();
        owingOnADay();
        heldWithin();
        withoutAText();
        daily();
        capped();
        flat();
        forgiving();
        pardon();
        forcing();
        noRuleOwesNothing();
        writingACard();
        Bounds.end();
    }

    private static FineSlot with(int kind, int a, int b, int c) {
        FineSlot x = new FineSlot();
        x.rule(kind, a, b, c);
        return x;
    }

    private static void eightAtMost() {
        Bounds.sentence("RULES, 8 at most, numbered from 0");
        FineSlot x = new FineSlot();
        for (int i = 0; i < 8; i++) {
            Bounds.due("rule " + i, x.rule(i % 6, 1, 1, 1), i);
            Bounds.due("rules", x.count(1), i + 1);
        }
        Bounds.due("the ninth", x.rule(0, 1, 1, 1), FULL);
        Bounds.due("rules", x.count(1), 8);
        Bounds.refused("the ninth", Bounds::full, y -> y.rule(0, 1, 1, 1), FULL);
    }

    private static void whatARuleMayBe() {
        Bounds.sentence("of KINDS: 0 RULE; 1 DAILY, 2 FLAT, 5 PARDON, under RULE; 3 CAPPED, under DAILY; 4 FORGIVING, under FLAT (all are RULES)");
        Bounds.range("kind", 0, 5, Bounds::rich, (x, v) -> x.rule(v, 5, 6, 7), 3, x -> x.told(3, 0));
        Bounds.sentence("a 0 .. 99, b 0 .. 999, c 1 .. 30");
        Bounds.range("a", 0, 99, Bounds::rich, (x, v) -> x.rule(1, v, 6, 7), 3, x -> x.told(3, 1));
        Bounds.range("b", 0, 999, Bounds::rich, (x, v) -> x.rule(1, 5, v, 7), 3, x -> x.told(3, 2));
        Bounds.range("c", 1, 30, Bounds::rich, (x, v) -> x.rule(1, 5, 6, v), 3, x -> x.told(3, 3));
        Bounds.range("c, bare", 1, 30, Bounds::bare, (x, v) -> x.rule(4, 5, 6, v), 0, x -> x.told(0, 3));
    }

    private static void whatIsRefusedFirst() {
        Bounds.sentence("One more RULE: its number. BAD; FULL.");
        Bounds.refused("kind of the ninth", Bounds::full, x -> x.rule(6, 0, 0, 1), BAD);
        Bounds.refused("a of the ninth", Bounds::full, x -> x.rule(0, 100, 0, 1), BAD);
        Bounds.refused("b of the ninth", Bounds::full, x -> x.rule(0, 0, 1000, 1), BAD);
        Bounds.refused("c of the ninth", Bounds::full, x -> x.rule(0, 0, 0, 0), BAD);
        Bounds.refused("the ninth", Bounds::full, x -> x.rule(5, 99, 999, 30), FULL);
    }

    private static void telling() {
        Bounds.sentence("Of a RULE: what 0 KIND, 1 a, 2 b, 3 c, 4 WORTH. BAD.");
        Bounds.numbers("told", 1, (x, v) -> x.told(v, 0));
        Bounds.numbers("told WORTH", 1, (x, v) -> x.told(v, 4));
        Bounds.outside("told what", 0, 4, Bounds::rich, (x, v) -> x.told(0, v), BAD);
        Bounds.outside("told what", 0, 4, Bounds::full, (x, v) -> x.told(7, v), BAD);
        long[] last = {FORGIVING, 6, 10, 3, 13};
        for (int what = 0; what < 5; what++) {
            int w = what;
            Bounds.refused("told changes nothing", Bounds::rich, x -> x.told(2, w), last[w]);
        }
    }

    private static void worthAtItsEnds() {
        Bounds.sentence("WORTH: RULE: a. DAILY: as RULE, and b. CAPPED: as DAILY, less c. FLAT: b. FORGIVING: as FLAT, and c. PARDON: 1.");
        long[] ofLeast = {0, 0, 0, -30, 1, 1};
        long[] ofMost = {99, 1098, 999, 1097, 1029, 1};
        for (int kind = 0; kind < 6; kind++) {
            Bounds.due("least of " + kind, with(kind, 0, 0, kind == CAPPED ? 30 : 1).told(0, 4), ofLeast[kind]);
            FineSlot x = with(kind, 99, 999, kind == CAPPED ? 1 : 30);
            Bounds.due("most of " + kind, x.told(0, 4), ofMost[kind]);
            Bounds.text(x, "owe 5");
            Bounds.due("a text does not count for " + kind, x.told(0, 4), ofMost[kind]);
        }
        Bounds.due("CAPPED, just 0", with(CAPPED, 0, 1, 1).told(0, 4), 0);
        Bounds.due("CAPPED, just below", with(CAPPED, 0, 0, 1).told(0, 4), -1);
    }

    private static void asAKind() {
        Bounds.sentence("A RULE as one of a KIND: a. BAD: rule, kind; KIND: it is not of that KIND, nor of one under it.");
        String[] above = {"0", "01", "02", "013", "024", "05"};
        for (int kind = 0; kind < 6; kind++) {
            FineSlot x = with(kind, 40 + kind, 20, 3);
            for (int k = 0; k < 6; k++) {
                boolean is = above[kind].indexOf('0' + k) >= 0;
                Bounds.due(kind + " as " + k, x.as(0, k), is ? 40 + kind : KIND);
            }
        }
        Bounds.numbers("as", 1, (x, v) -> x.as(v, 0));
        Bounds.numbers("as another KIND", 1, (x, v) -> x.as(v, 5));
        Bounds.outside("kind", 0, 5, Bounds::rich, (x, v) -> x.as(0, v), BAD);
        Bounds.outside("kind", 0, 5, Bounds::full, (x, v) -> x.as(7, v), BAD);
        Bounds.refused("not of that KIND", Bounds::rich, x -> x.as(2, 3), KIND);
        Bounds.refused("of one above it", Bounds::rich, x -> x.as(2, 2), 6);
    }

    private static void turning() {
        Bounds.sentence("A RULE is of another KIND from now on: what it was. BAD.");
        for (int from = 0; from < 6; from++) {
            for (int to = 0; to < 6; to++) {
                FineSlot x = with(from, 7, 20, 3);
                x.rule(from, 8, 21, 4);
                Bounds.due("turns", x.turns(0, to), from);
                Bounds.due("kind", x.told(0, 0), to);
                Bounds.due("a", x.told(0, 1), 7);
                Bounds.due("b", x.told(0, 2), 20);
                Bounds.due("c", x.told(0, 3), 3);
                Bounds.due("the other one", x.told(1, 0), from);
                Bounds.due("worth", x.told(0, 4), with(to, 7, 20, 3).told(0, 4));
                Bounds.due("owes", x.owes(0, 4), with(to, 7, 20, 3).owes(0, 4));
            }
        }
        Bounds.numbers("turns", 1, (x, v) -> x.turns(v, 0));
        Bounds.numbers("turns", 1, (x, v) -> x.turns(v, 5));
        Bounds.outside("kind", 0, 5, Bounds::rich, (x, v) -> x.turns(0, v), BAD);
        Bounds.outside("kind", 0, 5, Bounds::full, (x, v) -> x.turns(7, v), BAD);
        Bounds.leaves("there and back", Bounds::rich, x -> x.turns(1, 5) * 10 + x.turns(1, 3), 35, x -> { });
    }

    private static void setting() {
        Bounds.sentence("a, b, c (what 0, 1, 2) of a RULE becomes v: what it was. BAD.");
        for (int what = 0; what < 3; what++) {
            int w = what;
            Bounds.range("set " + w, LEAST[w], MOST[w], x -> x.rule(3, 4, 5, 6), (x, v) -> x.set(0, w, v), 4 + w, x -> x.told(0, w + 1));
            Bounds.outside("set " + w, LEAST[w], MOST[w], Bounds::rich, (x, v) -> x.set(2, w, v), BAD);
            Bounds.outside("set " + w, LEAST[w], MOST[w], Bounds::full, (x, v) -> x.set(7, w, v), BAD);
            Bounds.numbers("set " + w, 1, (x, v) -> x.set(v, w, 1));
        }
        Bounds.outside("what", 0, 2, Bounds::rich, (x, v) -> x.set(0, v, 1), BAD);
        Bounds.refusedAnywhere("all is wrong", x -> x.set(Bounds.LOW, Bounds.HIGH, Bounds.LOW), BAD);
        Bounds.leaves("there and back", Bounds::rich, x -> x.set(1, 1, 999) + x.set(1, 1, 90), 1089, x -> { });
    }

    private static void owingOnADay() {
        Bounds.sentence("OWES by a RULE on a day. BAD.");
        Bounds.sentence("DAYS late are 0 .. 30");
        Bounds.numbers("owes", 1, (x, v) -> x.owes(v, 0));
        Bounds.numbers("owes", 1, (x, v) -> x.owes(v, 30));
        Bounds.outside("day", 0, 30, Bounds::rich, (x, v) -> x.owes(0, v), BAD);
        Bounds.outside("day", 0, 30, Bounds::full, (x, v) -> x.owes(7, v), BAD);
        FineSlot x = with(DAILY, 3, 0, 1);
        int[] days = {0, 1, 29, 30};
        for (int day : days) {
            Bounds.due("day " + day, x.owes(0, day), 3 * day);
        }
        Bounds.refused("owes changes nothing", Bounds::rich, y -> y.owes(1, 30), 90);
    }

    private static void heldWithin() {
        Bounds.sentence("RULE: what owe gives, held within 0 .. 999");
        String[] laws = {LEAST_INT, "0-2", "0-1", "0", "1", "998", "999", "1000", "9999", MOST_INT};
        long[] held = {0, 0, 0, 0, 1, 998, 999, 999, 999, 999};
        for (int i = 0; i < laws.length; i++) {
            FineSlot x = new FineSlot();
            for (int kind = 0; kind < 6; kind++) {
                x.rule(kind, 50, 400, 7);
            }
            Bounds.text(x, "owe " + laws[i]);
            Bounds.due("RULE, " + laws[i], x.owes(RULE, 30), held[i]);
            Bounds.due("DAILY, " + laws[i], x.owes(DAILY, 30), 30 * held[i]);
            Bounds.due("DAILY on day 1, " + laws[i], x.owes(DAILY, 1), held[i]);
            Bounds.due("DAILY on day 0, " + laws[i], x.owes(DAILY, 0), 0);
            Bounds.due("FLAT, " + laws[i], x.owes(FLAT, 30), held[i] + 400);
            Bounds.due("CAPPED, " + laws[i], x.owes(CAPPED, 30), Math.min(400, 30 * held[i]));
            Bounds.due("FORGIVING, " + laws[i], x.owes(FORGIVING, 30), held[i] + 400);
            Bounds.due("FORGIVING on day 28, " + laws[i], x.owes(FORGIVING, 28), 0);
            Bounds.due("PARDON, " + laws[i], x.owes(PARDON, 30), 0);
        }
    }

    private static void withoutAText() {
        Bounds.sentence("(without a TEXT: a)");
        Bounds.due("a 0", with(RULE, 0, 999, 30).owes(0, 30), 0);
        Bounds.due("a 1", with(RULE, 1, 999, 30).owes(0, 0), 1);
        Bounds.due("a 98", with(RULE, 98, 999, 30).owes(0, 0), 98);
        Bounds.due("a 99", with(RULE, 99, 999, 30).owes(0, 30), 99);
        FineSlot x = with(RULE, 99, 999, 30);
        Bounds.text(x, "shame 5");
        Bounds.text(x, "forget 6");
        Bounds.text(x, "owe");
        Bounds.due("texts of other KEYs, or with a FAULT, do not count", x.owes(0, 30), 99);
    }

    private static void daily() {
        Bounds.sentence("DAILY: d times as RULE.");
        FineSlot x = with(DAILY, 99, 0, 1);
        Bounds.due("day 0", x.owes(0, 0), 0);
        Bounds.due("day 1", x.owes(0, 1), 99);
        Bounds.due("day 29", x.owes(0, 29), 2871);
        Bounds.due("day 30, beyond 999", x.owes(0, 30), 2970);
        Bounds.due("a 0", with(DAILY, 0, 999, 30).owes(0, 30), 0);
    }

    private static void capped() {
        Bounds.sentence("CAPPED: as DAILY, b at most.");
        for (int b : new int[] {49, 50, 51}) {
            FineSlot x = with(CAPPED, 10, b, 1);
            Bounds.due("ahead of it", x.owes(0, 4), 40);
            Bounds.due("at it", x.owes(0, 5), Math.min(b, 50));
            Bounds.due("behind it", x.owes(0, 6), b);
        }
        Bounds.due("b 0", with(CAPPED, 99, 0, 1).owes(0, 30), 0);
        Bounds.due("b 999", with(CAPPED, 99, 999, 1).owes(0, 30), 999);
        Bounds.due("below b 999", with(CAPPED, 99, 999, 1).owes(0, 10), 990);
        Bounds.due("day 0", with(CAPPED, 99, 999, 1).owes(0, 0), 0);
    }

    private static void flat() {
        Bounds.sentence("FLAT: as RULE, and b.");
        Bounds.due("least", with(FLAT, 0, 0, 1).owes(0, 30), 0);
        Bounds.due("most", with(FLAT, 99, 999, 1).owes(0, 0), 1098);
        FineSlot x = with(FLAT, 99, 999, 1);
        Bounds.text(x, "owe 9999");
        Bounds.due("most by a text", x.owes(0, 0), 1998);
        Bounds.text(x, "owe 0-9999");
        Bounds.due("least by a text", x.owes(0, 0), 999);
    }

    private static void forgiving() {
        Bounds.sentence("FORGIVING: as FLAT, but 0, if the rest of d by c is 0.");
        for (int c = 1; c <= 30; c++) {
            FineSlot x = with(FORGIVING, 7, 20, c);
            for (int day = 0; day <= 30; day++) {
                boolean free = day == 0 || day == c || day > c && day - day / c * c == 0;
                Bounds.due("c " + c + " day " + day, x.owes(0, day), free ? 0 : 27);
            }
        }
    }

    private static void pardon() {
        Bounds.sentence("PARDON: 0.");
        for (int day = 0; day <= 30; day++) {
            Bounds.due("day " + day, with(PARDON, 99, 999, 30).owes(0, day), 0);
        }
    }

    private static void forcing() {
        Bounds.sentence("THE RULE becomes one (NONE: none): which was (NONE). BAD.");
        Bounds.numbers("force", 1, (x, v) -> x.force(v) == BAD ? BAD : 0);
        int[] others = {NONE - 1, NONE + 1, Bounds.BAD, Bounds.NO, Bounds.NOTHING, KIND};
        for (int v : others) {
            Bounds.refusedAnywhere("force " + v, x -> x.force(v), BAD);
        }
        FineSlot x = new FineSlot();
        Bounds.due("none, from none", x.force(NONE), NONE);
        for (int i = 0; i < 8; i++) {
            x.rule(0, i, 0, 1);
        }
        Bounds.due("THE RULE is none at first", x.count(2), NONE);
        Bounds.due("the first", x.force(0), NONE);
        Bounds.due("the last", x.force(7), 0);
        Bounds.due("the same", x.force(7), 7);
        Bounds.due("none", x.force(NONE), 7);
        Bounds.due("none again", x.force(NONE), NONE);
        Bounds.refused("none again", Bounds::bare, y -> y.force(NONE), NONE);
        Bounds.leaves("there and back", Bounds::rich, y -> y.force(NONE) * 10 + y.force(1) - NONE, 10, y -> { });
    }

    private static void noRuleOwesNothing() {
        Bounds.sentence("THE RULE is one of them, or none (at first; OWES is 0 then).");
        FineSlot x = new FineSlot();
        x.sort(1, 0, 4);
        x.change(0, 3, 9);
        x.rule(FLAT, 99, 999, 1);
        Bounds.text(x, "owe 500");
        Bounds.due("BRINGING without one", x.reader(0, 30, 1), 4);
        x.force(0);
        Bounds.due("BRINGING by one", x.reader(0, 30, 1), 4 + 1499 + 1349);
        x.force(NONE);
        Bounds.due("BRINGING without one", x.reader(0, 30, 1), 4);
        Bounds.due("COIN without one", x.library(1), 0);
        Bounds.due("OWES by a RULE that is not in force", x.owes(0, 30), 1499);
    }

    private static void writingACard() {
        Bounds.sentence("THE CARD becomes a day (NONE: none): what it was (NONE). BAD.");
        Bounds.sentence("THE CARD is a day, or none (at first).");
        Bounds.range("card", 0, 30, Bounds::bare, (x, v) -> x.card(v), NONE, x -> x.count(3));
        Bounds.range("card", 0, 30, Bounds::rich, (x, v) -> x.card(v), 12, x -> x.count(3));
        Bounds.outside("card", 0, 30, Bounds::full, (x, v) -> x.card(v), BAD);
        int[] others = {NONE - 1, NONE + 1, Bounds.BAD, Bounds.NO, Bounds.NOTHING, KIND};
        for (int v : others) {
            Bounds.refusedAnywhere("card " + v, x -> x.card(v), BAD);
        }
        Bounds.refused("none, from none", Bounds::bare, x -> x.card(NONE), NONE);
        FineSlot x = new FineSlot();
        Bounds.due("the last day", x.card(30), NONE);
        Bounds.due("none", x.card(NONE), 30);
        Bounds.due("none again", x.card(NONE), NONE);
        Bounds.due("none is there", x.count(3), NONE);
    }
}
