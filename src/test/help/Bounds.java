/**
 * What the tests of the document's boundary sentences have in common: the sentence in hand, the answers that are
 * due, three states to stand in, and a look at all that an object holds, for what a refused call must leave alone.
 */
final class Bounds {
    static final int BAD = FineSlot.BAD, NO = FineSlot.NO, FULL = FineSlot.FULL, NONE = FineSlot.NONE;
    static final int NOTHING = FineSlot.NOTHING, KIND = FineSlot.KIND, INDEX = FineSlot.INDEX, SIZE = FineSlot.SIZE;
    static final int LOW = Integer.MIN_VALUE, HIGH = Integer.MAX_VALUE;

    interface Steps {
        void on(FineSlot x);
    }

    interface Call {
        long on(FineSlot x);
    }

    interface CallOf {
        long on(FineSlot x, int v);
    }

    private static String sentence = "";
    private static int sentences = 0;
    private static int answers = 0;
    private static int wrong = 0;

    private Bounds() {
    }

    /** The document's words that the next lines test. */
    static void sentence(String words) {
        sentence = words;
        sentences++;
    }

    static void due(String call, long got, long want) {
        answers++;
        if (got != want) {
            fault(call + " answered " + got + ", due is " + want);
        }
    }

    private static void fault(String words) {
        wrong++;
        System.out.println("\"" + sentence + "\": " + words);
    }

    static void end() {
        System.out.println(sentences + " sentences, " + answers + " answers, " + wrong + " wrong");
        if (wrong != 0 || answers == 0) {
            System.exit(1);
        }
    }

    // ---- what is refused, what is taken

    static FineSlot made(Steps before) {
        FineSlot x = new FineSlot();
        before.on(x);
        return x;
    }

    /** The call answers so, and behind it all is as it was. */
    static void refused(String name, Steps before, Call call, long want) {
        leaves(name, before, call, want, y -> { });
    }

    /** As refused(), with nothing, with something of all, and with all that there is room for. */
    static void refusedAnywhere(String name, Call call, long want) {
        refused(name + ", bare", Bounds::bare, call, want);
        refused(name + ", rich", Bounds::rich, call, want);
        refused(name + ", full", Bounds::full, call, want);
    }

    /** The call answers so, and behind it all is as other steps would have left it. */
    static void leaves(String name, Steps before, Call call, long want, Steps instead) {
        FineSlot x = made(before);
        FineSlot y = made(before);
        due(name, call.on(x), want);
        instead.on(y);
        same(name, shown(x), shown(y));
        // A second pair, since looking at what is hidden uses it up, and an object has 512 calls.
        x = made(before);
        y = made(before);
        call.on(x);
        instead.on(y);
        same(name, hidden(x), hidden(y));
    }

    private static void same(String name, String got, String want) {
        answers++;
        if (got.equals(want)) {
            return;
        }
        String[] g = got.split("\n");
        String[] w = want.split("\n");
        int i = 0;
        while (i < g.length && i < w.length && g[i].equals(w[i])) {
            i++;
        }
        fault(name + " left " + (i < g.length ? g[i] : "less") + ", not " + (i < w.length ? w[i] : "less"));
    }

    /** From least to most v is taken, and told as it is; next to them, and far out, it is refused. */
    static void range(String name, int least, int most, Steps before, CallOf call, long answer, Call told) {
        int[] inside = {least, Math.min(least + 1, most), Math.max(most - 1, least), most};
        for (int v : inside) {
            FineSlot x = made(before);
            due(name + " " + v, call.on(x, v), answer);
            due(name + " " + v + ", told", told.on(x), v);
        }
        outside(name, least, most, before, call, BAD);
    }

    static void outside(String name, int least, int most, Steps before, CallOf call, long want) {
        for (int v : new int[] {least - 1, most + 1, LOW, HIGH}) {
            refused(name + " " + v, before, x -> call.on(x, v), want);
        }
    }

    /** Those that there are, 0 .. count - 1, are not refused; the next ones are, in all three states. */
    static void numbers(String name, int what, CallOf call) {
        Steps[] states = {Bounds::bare, Bounds::rich, Bounds::full};
        for (Steps state : states) {
            int count = made(state).count(what);
            outside(name, 0, count - 1, state, call, BAD);
            if (count > 0) {
                taken(name, state, call, 0);
                taken(name, state, call, count - 1);
            }
        }
    }

    /** As numbers(), where there are always so many. */
    static void places(String name, int most, CallOf call) {
        Steps[] states = {Bounds::bare, Bounds::rich, Bounds::full};
        for (Steps state : states) {
            outside(name, 0, most, state, call, BAD);
            taken(name, state, call, 0);
            taken(name, state, call, most);
        }
    }

    private static void taken(String name, Steps state, CallOf call, int v) {
        answers++;
        if (call.on(made(state), v) == BAD) {
            fault(name + " " + v + " answered BAD");
        }
    }

    // ---- states

    static void bare(FineSlot x) {
    }

    /** Something of all; what is kept is not what is. The numbers that wait are the readers told. */
    static void rich(FineSlot x) {
        keepTwoSorts(x);
        x.sort(5, 40, 7);
        x.change(2, 3, 4);
        x.change(2, 4, 300);
        x.change(2, 5, 1);
        x.change(2, 6, 700);
        x.rule(3, 7, 90, 5);
        x.rule(4, 6, 10, 3);
        x.force(1);
        x.card(12);
        text(x, "shame o / 3 + s");
        text(x, "owe 5");
        text(x, "owe a + d / 2");
        x.seed(77);
        x.sheet(0, 0, 5);
        x.mark(0, 1, -2);
        x.mark(0, 2, 300);
        x.mark(0, 4, 32767);
        x.sheet(1, 1, 4);
        x.mark(1, 0, 5);
        x.mark(1, 1, NONE);
        x.mark(1, 2, -99999);
        x.sheet(3, 0, 0);
        x.lay(1, 1, 2);
        x.lay(2, 2, 0);
        x.lay(3, 3, -17);
        x.lay(4, 2, 1);
        tellReaders(x, 3);
        feed(x, "owe b + d * 2");
    }

    /** 6 sorts, 8 rules, 14 texts, 60 numbers that wait, a tape of 96 bytes, rows of 24 places. */
    static void full(FineSlot x) {
        keepTwoSorts(x);
        x.deal(6);
        for (int i = 1; i < 8; i++) {
            x.rule(i % 6, 10 + i, 20 * i, i);
        }
        x.force(7);
        x.card(30);
        for (int i = 0; i < 14; i++) {
            text(x, i == 0 ? "shame s * 2" : i == 1 ? "forget f - 1" : "owe a * 3 + d");
        }
        for (int i = 0; i < 4; i++) {
            x.sheet(i, i % 2, 24);
            x.mark(i, 0, 40 + i);
            x.mark(i, 23, -40 - i);
            x.lay(i, 2, i);
        }
        x.lay(4, 1, 5);
        tellReaders(x, 30);
        feed(x, "owe " + "1+".repeat(45) + "10");
    }

    /** One who never forgets and owes 5 on day 0, and one who always forgets: their readers need no dice. */
    private static void keepTwoSorts(FineSlot x) {
        x.sort(3, 0, 1);
        x.sort(4, 100, 2);
        x.rule(2, 2, 3, 4);
        x.force(0);
        x.seed(11);
        x.keep();
    }

    private static void tellReaders(FineSlot x, int n) {
        for (int i = 0; i < n; i++) {
            x.tell(i % 2 == 0 ? 0 : -1);
            x.tell(i % 2 == 0 ? 5 : 0);
        }
    }

    static int text(FineSlot x, String text) {
        feed(x, text);
        return x.text();
    }

    static void feed(FineSlot x, String text) {
        x.trim(0);
        for (int i = 0; i < text.length(); i += 12) {
            x.feed(four(text, i), four(text, i + 4), four(text, i + 8));
        }
        x.trim(text.length());
    }

    private static int four(String text, int from) {
        int v = 0;
        for (int i = from; i < from + 4; i++) {
            v = v << 8 | (i < text.length() ? text.charAt(i) : ' ');
        }
        return v;
    }

    // ---- all that an object holds

    private static String shown(FineSlot x) {
        StringBuilder all = new StringBuilder();
        showWorld(x, all);
        for (int what = 0; what < 8; what++) {
            row(all, "count " + what, x.count(what));
        }
        for (int slot = 0; slot < 5; slot++) {
            row(all, "rest " + slot, x.rest(slot, HIGH));
            for (int kind = 0; kind < 6; kind++) {
                row(all, "ask " + slot + " " + kind, x.ask(slot, kind));
            }
            showItems(x, slot, "item " + slot, all);
        }
        return all.toString();
    }

    private static void showItems(FineSlot x, int slot, String name, StringBuilder all) {
        int item = x.item(slot, 0);
        for (int place = 0; place < 24 && item != NOTHING && item != INDEX; place++) {
            item = x.item(slot, place);
            row(all, name + " " + place, item);
        }
    }

    private static void showWorld(FineSlot x, StringBuilder all) {
        int sorts = x.count(0);
        int rules = x.count(1);
        int texts = x.count(4);
        for (int sort = 0; sort < sorts; sort++) {
            for (int what = 0; what < 7; what++) {
                row(all, "sortTold " + sort + " " + what, x.sortTold(sort, what));
            }
        }
        for (int rule = 0; rule < rules; rule++) {
            for (int what = 0; what < 4; what++) {
                row(all, "told " + rule + " " + what, x.told(rule, what));
            }
        }
        row(all, "owes", x.owes(0, 3));
        for (int text = 0; text < texts; text++) {
            row(all, "textTold " + text, x.textTold(text, 0) + 10 * x.textTold(text, 1));
        }
        for (int key = 0; key < 3; key++) {
            row(all, "why " + key, x.why(key));
        }
        for (int what = 0; what < 4; what++) {
            row(all, "library " + what, x.library(what));
        }
    }

    /** Sheets, numbers that wait, the tape and the image, which can be seen only by using them. */
    private static String hidden(FineSlot x) {
        StringBuilder all = new StringBuilder();
        row(all, "check", x.check(Math.max(1, x.count(5) / 2)));
        for (int sheet = 0; sheet < 4; sheet++) {
            row(all, "lay " + sheet, x.lay(0, 2, sheet));
            showItems(x, 0, "sheet " + sheet, all);
        }
        row(all, "text", x.text());
        row(all, "owes by it", x.owes(0, 4));
        row(all, "back", x.back());
        for (int what = 0; what < 8; what++) {
            row(all, "count back " + what, x.count(what));
        }
        showWorld(x, all);
        return all.toString();
    }

    private static void row(StringBuilder all, String name, long answer) {
        all.append(name).append(" = ").append(answer).append('\n');
    }
}
