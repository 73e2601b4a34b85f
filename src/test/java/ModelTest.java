import java.util.ArrayList;
import java.util.Arrays;
import java.util.List;
import java.util.Random;

/**
 * Random runs of calls, answered by FineSlot and by a slow model that is written straight from the document,
 * in another way: costs and OUT by recursion, laws worked out from their bytes each time, images by copying.
 */
public final class ModelTest {
    private static final int BAD = -1000000001, NO = -1000000002, FULL = -1000000003, NONE = -1000000005;
    private static final int NOTHING = -1000000011, KIND = -1000000012, INDEX = -1000000013, SIZE = -1000000014;

    private static final String[] CALLS = {
        "sort3", "sortTold2", "change3", "deal1", "rule4", "told2", "as2", "turns2", "set3", "owes2", "force1", "card1",
        "reader3", "first2", "run1", "year0", "seed1", "library1", "find0", "edge1", "write0", "least0", "feed3", "trim1",
        "text0", "textTold2", "why1", "sheet3", "mark3", "learn1", "reads2", "copy5", "lay3", "ask2", "item2", "rest2",
        "tell1", "check1", "keep0", "back0", "count1"};

    public static void main(String[] args) {
        int wrong = 0;
        int[] asked = new int[CALLS.length];
        for (int run = 0; run < 1000 && wrong < 5; run++) {
            wrong += oneRun(run, asked);
        }
        for (int i = 0; i < CALLS.length; i++) {
            if (asked[i] < 200) {
                System.out.println(CALLS[i] + " was asked too seldom: " + asked[i]);
                wrong++;
            }
        }
        System.out.println(wrong == 0 ? "all answers are the model's" : wrong + " runs differ from the model");
        if (wrong != 0) {
            System.exit(1);
        }
    }

    private static int oneRun(int run, int[] asked) {
        Random random = new Random(run);
        FineSlot slot = new FineSlot();
        Model model = new Model();
        Chooser chooser = new Chooser(random);
        chooser.planStart();
        StringBuilder told = new StringBuilder();
        int calls = 60 + random.nextInt(340);
        for (int i = 0; i < calls; i++) {
            int[] call = chooser.next(model);
            asked[call[0]]++;
            long due = model.answer(call);
            long got = answer(slot, call);
            told.append(CALLS[call[0]]).append(Arrays.toString(Arrays.copyOfRange(call, 1, call.length)))
                .append(" = ").append(got).append('\n');
            if (due != got) {
                System.out.println("run " + run + ", call " + i + ", due is " + due + ":\n" + told);
                return 1;
            }
        }
        return 0;
    }

    private static long answer(FineSlot x, int[] c) {
        switch (CALLS[c[0]]) {
            case "sort3": return x.sort(c[1], c[2], c[3]);
            case "sortTold2": return x.sortTold(c[1], c[2]);
            case "change3": return x.change(c[1], c[2], c[3]);
            case "deal1": return x.deal(c[1]);
            case "rule4": return x.rule(c[1], c[2], c[3], c[4]);
            case "told2": return x.told(c[1], c[2]);
            case "as2": return x.as(c[1], c[2]);
            case "turns2": return x.turns(c[1], c[2]);
            case "set3": return x.set(c[1], c[2], c[3]);
            case "owes2": return x.owes(c[1], c[2]);
            case "force1": return x.force(c[1]);
            case "card1": return x.card(c[1]);
            case "reader3": return x.reader(c[1], c[2], c[3]);
            case "first2": return x.first(c[1], c[2]);
            case "run1": return x.run(c[1]);
            case "year0": return x.year();
            case "seed1": return x.seed(c[1]);
            case "library1": return x.library(c[1]);
            case "find0": return x.find();
            case "edge1": return x.edge(c[1]);
            case "write0": return x.write();
            case "least0": return x.least();
            case "feed3": return x.feed(c[1], c[2], c[3]);
            case "trim1": return x.trim(c[1]);
            case "text0": return x.text();
            case "textTold2": return x.textTold(c[1], c[2]);
            case "why1": return x.why(c[1]);
            case "sheet3": return x.sheet(c[1], c[2], c[3]);
            case "mark3": return x.mark(c[1], c[2], c[3]);
            case "learn1": return x.learn(c[1]);
            case "reads2": return x.reads(c[1], c[2]);
            case "copy5": return x.copy(c[1], c[2], c[3], c[4], c[5]);
            case "lay3": return x.lay(c[1], c[2], c[3]);
            case "ask2": return x.ask(c[1], c[2]);
            case "item2": return x.item(c[1], c[2]);
            case "rest2": return x.rest(c[1], c[2]);
            case "tell1": return x.tell(c[1]);
            case "check1": return x.check(c[1]);
            case "keep0": return x.keep();
            case "back0": return x.back();
            case "count1": return x.count(c[1]);
            default: throw new IllegalStateException();
        }
    }

    /** Chooses calls; a law, and a row to check, are planned as several calls one behind the other. */
    private static final class Chooser {
        private final Random random;
        private final List<int[]> planned = new ArrayList<>();

        Chooser(Random random) {
            this.random = random;
        }

        int[] next(Model model) {
            if (!planned.isEmpty()) {
                return planned.remove(0);
            }
            int what = random.nextInt(60);
            if (what < 3) {
                planText();
            } else if (what == 3 && model.image != null && !model.image.sorts.isEmpty()) {
                planCheck(model);
            } else if (what == 4 && random.nextInt(4) == 0) {
                planFullTape();
            } else if (what == 5 && random.nextInt(4) == 0) {
                planFullRow();
            } else {
                planned.add(anyCall(model));
            }
            return planned.remove(0);
        }

        /** Something of everything, so that later calls find it. */
        void planStart() {
            for (int i = random.nextInt(6); i > 0; i--) {
                planned.add(call("sort3", random.nextInt(100), random.nextInt(101), random.nextInt(40)));
            }
            for (int i = random.nextInt(8); i > 0; i--) {
                planned.add(call("rule4", random.nextInt(6), random.nextInt(20), random.nextInt(60), 1 + random.nextInt(30)));
            }
            planned.add(call("force1", random.nextInt(4)));
            for (int i = 0; i < 4; i++) {
                planned.add(call("sheet3", i, random.nextInt(3) - random.nextInt(2), random.nextInt(25)));
                planned.add(call("lay3", i, 1 + random.nextInt(3), random.nextInt(4)));
            }
            if (random.nextInt(10) == 0) {
                for (int i = 0; i < 30; i++) {
                    planText();
                }
            }
        }

        private int[] anyCall(Model model) {
            int which = random.nextInt(CALLS.length);
            String name = CALLS[which];
            if ((name.equals("back0") || name.equals("lay3")) && random.nextInt(4) != 0) {
                return anyCall(model);
            }
            int n = name.charAt(name.length() - 1) - '0';
            int[] call = new int[n + 1];
            call[0] = which;
            for (int i = 1; i <= n; i++) {
                call[i] = argument(model, name, i);
            }
            if (name.equals("change3") && random.nextInt(10) != 0) {
                call[3] = random.nextInt(new int[] {100, 101, 100, 10, 400, 15, 2000, 9}[Math.floorMod(call[2], 8)]);
            }
            if (name.equals("lay3") && random.nextInt(10) != 0) {
                call[3] = random.nextInt(call[2] == 2 ? 4 : call[2] == 1 ? model.now.rules.size() + 1 : 1000) - (call[2] == 3 ? 500 : 0);
            }
            return call;
        }

        private int argument(Model model, String name, int i) {
            if (random.nextInt(40) == 0) {
                int[] odd = {Integer.MIN_VALUE, Integer.MAX_VALUE, -1, NONE, 31, 32, 100, 101, 10000, 25, 24, 99999, -100000};
                return odd[random.nextInt(odd.length)];
            }
            if ((name.equals("force1") || name.equals("card1")) && random.nextInt(4) == 0) {
                return NONE;
            }
            boolean often = random.nextInt(12) != 0;
            if (often && isRule(name, i) && !model.now.rules.isEmpty()) {
                return random.nextInt(model.now.rules.size());
            }
            if (often && i == 1 && isOfSort(name) && !model.now.sorts.isEmpty()) {
                return random.nextInt(model.now.sorts.size());
            }
            if (often && i == 1 && name.equals("textTold2") && !model.now.laws.isEmpty()) {
                return random.nextInt(model.now.laws.size());
            }
            if (name.equals("rest2") && i == 2) {
                return random.nextInt(19) - 9;
            }
            if (name.equals("mark3") && i == 3 && random.nextInt(8) == 0) {
                return random.nextBoolean() ? NONE : random.nextInt();
            }
            if (name.equals("seed1") || name.equals("feed3")) {
                return random.nextInt();
            }
            if (name.equals("sheet3") && i == 2) {
                return random.nextInt(2) - (random.nextInt(6) == 0 ? 1 : 0);
            }
            int top = most(name)[i - 1];
            if (top > 40 && random.nextInt(3) == 0) {
                top = 30;
            }
            return random.nextInt(top + 1);
        }

        private static boolean isRule(String name, int i) {
            boolean first = Arrays.asList("told2", "as2", "turns2", "set3", "owes2", "force1").contains(name);
            return first && i == 1 || name.equals("reads2") && i == 2;
        }

        private static boolean isOfSort(String name) {
            return Arrays.asList("sortTold2", "change3", "reader3", "first2", "run1", "edge1").contains(name);
        }

        private void planFullTape() {
            for (int i = 0; i < 9; i++) {
                planned.add(call("feed3", four("owe ", 0), random.nextInt(), four("    ", 0)));
            }
        }

        private void planFullRow() {
            for (int i = 0; i < 61; i++) {
                planned.add(call("tell1", i));
            }
        }

        private static int[] most(String name) {
            switch (name) {
                case "sort3": return new int[] {99, 100, 99};
                case "sortTold2": return new int[] {6, 7};
                case "change3": return new int[] {5, 7, 600};
                case "deal1": return new int[] {6};
                case "rule4": return new int[] {6, 99, 999, 31};
                case "told2": return new int[] {8, 5};
                case "as2": case "turns2": return new int[] {7, 6};
                case "set3": return new int[] {7, 3, 99};
                case "owes2": return new int[] {7, 31};
                case "force1": return new int[] {7};
                case "card1": return new int[] {31};
                case "reader3": return new int[] {5, 31, 7};
                case "first2": return new int[] {5, 3};
                case "run1": case "edge1": return new int[] {5};
                case "library1": return new int[] {4};
                case "trim1": return new int[] {96};
                case "textTold2": return new int[] {14, 2};
                case "why1": return new int[] {3};
                case "sheet3": return new int[] {4, 1, 24};
                case "mark3": return new int[] {4, 23, 400};
                case "learn1": return new int[] {4};
                case "reads2": return new int[] {4, 7};
                case "copy5": return new int[] {3, 20, 3, 20, 10};
                case "lay3": return new int[] {5, 4, 7};
                case "ask2": return new int[] {5, 6};
                case "item2": return new int[] {5, 24};
                case "rest2": return new int[] {5, 9};
                case "tell1": return new int[] {30};
                case "check1": return new int[] {31};
                case "count1": return new int[] {8};
                default: return new int[0];
            }
        }

        private void planText() {
            String text = new Writer(random).text();
            if (text.length() > 96) {
                text = text.substring(0, 96);
            }
            planned.add(call("trim1", 0));
            for (int i = 0; i < text.length(); i += 12) {
                planned.add(call("feed3", four(text, i), four(text, i + 4), four(text, i + 8)));
            }
            planned.add(call("trim1", text.length()));
            planned.add(call("text0"));
        }

        private static int four(String text, int from) {
            int v = 0;
            for (int i = from; i < from + 4; i++) {
                v = v << 8 | (i < text.length() ? text.charAt(i) : ' ');
            }
            return v;
        }

        private void planCheck(Model model) {
            int n = 1 + random.nextInt(30);
            List<Integer> row = new ArrayList<>(model.readersTold(n));
            int spoil = random.nextInt(4);
            if (spoil == 1) {
                int at = random.nextInt(row.size());
                row.set(at, row.get(at) + 1);
            } else if (spoil == 2) {
                row = row.subList(0, random.nextInt(row.size()));
            } else if (spoil == 3) {
                row.add(0);
            }
            planned.add(call("check1", 1));
            for (int v : row) {
                planned.add(call("tell1", v));
            }
            planned.add(call("check1", n));
        }

        private static int[] call(String name, int... with) {
            int[] call = new int[with.length + 1];
            call[0] = Arrays.asList(CALLS).indexOf(name);
            System.arraycopy(with, 0, call, 1, with.length);
            return call;
        }
    }

    /** Writes laws, some of them spoilt. */
    private static final class Writer {
        private final Random random;
        private String names;

        Writer(Random random) {
            this.random = random;
        }

        String text() {
            int key = random.nextInt(3);
            names = new String[] {"dab", "os", "df"}[key];
            StringBuilder text = new StringBuilder(blanks() + new String[] {"owe", "shame", "forget"}[key]);
            String body = random.nextInt(10) == 0 ? deep() : part(random.nextInt(5));
            boolean word = Character.isLetterOrDigit(body.trim().charAt(0));
            text.append(word && random.nextInt(30) != 0 ? " " : blanks()).append(body).append(blanks());
            if (random.nextInt(3) == 0) {
                spoil(text);
            }
            return text.toString();
        }

        private void spoil(StringBuilder text) {
            int at = random.nextInt(text.length());
            String signs = "dabosfx0123456789+-*/<=>&|!() A\u00e4\u0000";
            char sign = signs.charAt(random.nextInt(signs.length()));
            switch (random.nextInt(4)) {
                case 0: text.setCharAt(at, sign); break;
                case 1: text.insert(at, sign); break;
                case 2: text.deleteCharAt(at); break;
                default: text.setLength(at);
            }
        }

        private String deep() {
            int depth = 7 + random.nextInt(3);
            String[] opens = {"(", "!", "!("};
            String open = opens[random.nextInt(3)];
            String close = open.endsWith("(") ? ")" : "";
            String body = random.nextInt(4) == 0 ? "!" + leaf() : leaf();
            return open.repeat(depth) + body + close.repeat(depth);
        }

        private String part(int depth) {
            int what = random.nextInt(8);
            if (depth == 0 || what == 0) {
                return leaf();
            }
            if (what == 1) {
                return "!" + blanks() + part(0);
            }
            if (what == 2) {
                return "(" + part(depth - 1) + ")" + blanks();
            }
            String signs = "+-*/<=>&|+-*";
            String sign = String.valueOf(signs.charAt(random.nextInt(signs.length())));
            return part(depth - 1) + blanks() + sign + blanks() + part(depth - 1);
        }

        private String leaf() {
            if (random.nextBoolean()) {
                return String.valueOf(names.charAt(random.nextInt(names.length())));
            }
            int digits = random.nextInt(40) == 0 ? 5 : 1 + random.nextInt(4);
            StringBuilder number = new StringBuilder();
            for (int i = 0; i < digits; i++) {
                number.append((char) ('0' + random.nextInt(10)));
            }
            return number.toString();
        }

        private String blanks() {
            return " ".repeat(random.nextInt(8) == 0 ? random.nextInt(3) : 0);
        }
    }

    private static final class Fault extends Exception {
        private static final long serialVersionUID = 1;
        final int place;

        Fault(int place) {
            this.place = place;
        }
    }

    /** A law as its bytes; read anew each time it is worked out. */
    private static final class Law {
        private final byte[] bytes;
        private int at;
        private boolean wordBefore;
        private int values[];
        private String names;
        int key;
        int leaves;

        Law(byte[] bytes) {
            this.bytes = bytes;
        }

        int work(int... with) throws Fault {
            values = with;
            at = 0;
            leaves = 0;
            wordBefore = false;
            String word = letters();
            key = Arrays.asList("owe", "shame", "forget").indexOf(word);
            if (key < 0) {
                throw new Fault(skipped());
            }
            names = new String[] {"dab", "os", "df"}[key];
            at = skipped() + word.length();
            wordBefore = true;
            int v = or(0, 0);
            if (skipped() < bytes.length) {
                throw new Fault(skipped());
            }
            return v;
        }

        private int skipped() {
            int i = at;
            while (i < bytes.length && bytes[i] == 32) {
                i++;
            }
            return i;
        }

        private String letters() {
            int i = skipped();
            StringBuilder word = new StringBuilder();
            while (i < bytes.length && bytes[i] >= 'a' && bytes[i] <= 'z') {
                word.append((char) bytes[i++]);
            }
            return word.toString();
        }

        private String digits() {
            int i = skipped();
            StringBuilder word = new StringBuilder();
            while (i < bytes.length && bytes[i] >= '0' && bytes[i] <= '9') {
                word.append((char) bytes[i++]);
            }
            return word.toString();
        }

        private int sign() {
            return skipped() < bytes.length ? bytes[skipped()] : -999;
        }

        private boolean takes(int sign) {
            if (sign() != sign) {
                return false;
            }
            at = skipped() + 1;
            wordBefore = false;
            return true;
        }

        private int or(int open, int nots) throws Fault {
            int v = and(open, nots);
            while (takes('|')) {
                int w = and(open, nots);
                v = v != 0 || w != 0 ? 1 : 0;
            }
            return v;
        }

        private int and(int open, int nots) throws Fault {
            int v = test(open, nots);
            while (takes('&')) {
                int w = test(open, nots);
                v = v != 0 && w != 0 ? 1 : 0;
            }
            return v;
        }

        private int test(int open, int nots) throws Fault {
            int v = sum(open, nots);
            if (takes('<')) {
                return v < sum(open, nots) ? 1 : 0;
            }
            if (takes('=')) {
                return v == sum(open, nots) ? 1 : 0;
            }
            if (takes('>')) {
                return v > sum(open, nots) ? 1 : 0;
            }
            return v;
        }

        private int sum(int open, int nots) throws Fault {
            int v = term(open, nots);
            while (sign() == '+' || sign() == '-') {
                v = takes('+') ? v + term(open, nots) : takes('-') ? v - term(open, nots) : v;
            }
            return v;
        }

        private int term(int open, int nots) throws Fault {
            int v = piece(open, nots);
            while (sign() == '*' || sign() == '/') {
                if (takes('*')) {
                    v *= piece(open, nots);
                } else {
                    takes('/');
                    int w = piece(open, nots);
                    v = w == 0 ? 0 : v / w;
                }
            }
            return v;
        }

        private int piece(int open, int nots) throws Fault {
            int place = skipped();
            if (takes('!')) {
                if (nots == 8) {
                    throw new Fault(place);
                }
                return piece(open, nots + 1) == 0 ? 1 : 0;
            }
            if (takes('(')) {
                if (open == 8) {
                    throw new Fault(place);
                }
                int v = or(open + 1, nots);
                if (!takes(')')) {
                    throw new Fault(skipped());
                }
                return v;
            }
            String word = letters() + digits();
            if (word.isEmpty() || wordBefore && place == at) {
                throw new Fault(place);
            }
            boolean number = Character.isDigit(word.charAt(0));
            int length = number ? digits().length() : letters().length();
            if (number ? length > 4 : length != 1 || names.indexOf(word.charAt(0)) < 0) {
                throw new Fault(place);
            }
            at = place + length;
            wordBefore = true;
            leaves++;
            return number ? Integer.parseInt(word.substring(0, length)) : values[names.indexOf(word.charAt(0))];
        }
    }

    private static final class State {
        final List<int[]> sorts = new ArrayList<>();
        final List<int[]> rules = new ArrayList<>();
        final List<Law> laws = new ArrayList<>();
        int force = NONE;
        int card = NONE;
        int z = 1;

        State copy() {
            State s = new State();
            for (int[] sort : sorts) {
                s.sorts.add(sort.clone());
            }
            for (int[] rule : rules) {
                s.rules.add(rule.clone());
            }
            s.laws.addAll(laws);
            s.force = force;
            s.card = card;
            s.z = z;
            return s;
        }

        int counting(int key) {
            for (int i = laws.size() - 1; i >= 0; i--) {
                if (laws.get(i).key == key) {
                    return i;
                }
            }
            return NONE;
        }

        int byLaw(int key, int least, int most, int without, int... with) {
            if (counting(key) == NONE) {
                return without;
            }
            try {
                int v = laws.get(counting(key)).work(with);
                return v < least ? least : v > most ? most : v;
            } catch (Fault f) {
                throw new IllegalStateException(f);
            }
        }

        int owes(int[] r, int d) {
            return owesAs(r[0], r, d);
        }

        private int owesAs(int kind, int[] r, int d) {
            switch (kind) {
                case 0: return byLaw(0, 0, 999, r[1], d, r[1], r[2]);
                case 1: return d * owesAs(0, r, d);
                case 2: return owesAs(0, r, d) + r[2];
                case 3: return Math.min(r[2], owesAs(1, r, d));
                case 4: return d % r[3] == 0 ? 0 : owesAs(2, r, d);
                default: return 0;
            }
        }

        int o(int d) {
            return force == NONE ? 0 : owes(rules.get(force), d);
        }

        int f(int[] s, int d) {
            return byLaw(2, 0, 100, card != NONE && d >= card ? s[1] / 2 : s[1], d, s[1]);
        }

        int bringing(int[] s, int d) {
            return s[2] + o(d) + byLaw(1, 0, 9999, s[3] * o(d) / 10, o(d), s[3]);
        }

        /** COST of all days, the one of day 31 too. */
        int[] costs(int[] s) {
            int[] cost = new int[32];
            cost[31] = s[6];
            for (int d = 30; d >= 0; d--) {
                int keeping = cost[d + 1] - s[5];
                int best = o(d) > s[4] || bringing(s, d) > keeping ? keeping : bringing(s, d);
                int f = f(s, d);
                cost[d] = (f * keeping + (100 - f) * best) / 100;
            }
            return cost;
        }

        boolean[] brings(int[] s) {
            int[] cost = costs(s);
            boolean[] brings = new boolean[31];
            for (int d = 0; d < 31; d++) {
                brings[d] = o(d) <= s[4] && bringing(s, d) <= cost[d + 1] - s[5];
            }
            return brings;
        }

        /** OUT: place d is ahead of day d, place d + 1 behind it. */
        int[] outs(int[] s) {
            boolean[] brings = brings(s);
            int[] out = new int[32];
            out[0] = 1000000;
            for (int d = 0; d < 31; d++) {
                out[d + 1] = out[d] - (brings[d] ? out[d] * (100 - f(s, d)) / 100 : 0);
            }
            return out;
        }

        long library(int what) {
            long sum = 0;
            for (int[] s : sorts) {
                int[] out = outs(s);
                long one = 0;
                for (int d = 0; d < 31; d++) {
                    one += what == 0 ? out[d + 1] : what == 1 ? (long) (out[d] - out[d + 1]) * o(d) : 0;
                }
                one += what == 2 ? out[31] : what == 3 && card != NONE ? out[card] : 0;
                sum += one * s[0];
            }
            return sum;
        }

        int draw() {
            z = z * 1103515245 + 12345;
            return z >>> 8;
        }

        int drawnDay(int[] s, boolean[] brings) {
            for (int d = 0; d < 31; d++) {
                int draw = draw() % 100;
                if (draw >= f(s, d) && brings[d]) {
                    return d;
                }
            }
            return NONE;
        }
    }

    private static final class Model {
        State now = new State();
        State image = null;
        byte[] tape = new byte[0];
        List<Integer> waiting = new ArrayList<>();
        // A sheet: a row of Integers (null: NO NUMBER) and its sort; a slot: a rule, a sheet, or a number.
        Integer[][] sheets = new Integer[4][];
        int[] sheetSorts = new int[4];
        Object[] slots = new Object[5];

        private static boolean in(int v, int least, int most) {
            return least <= v && v <= most;
        }

        private static boolean under(int kind, int above) {
            return kind == above || above == 0 || kind == 3 && above == 1 || kind == 4 && above == 2;
        }

        private static int worth(int[] r) {
            switch (r[0]) {
                case 0: return r[1];
                case 1: return r[1] + r[2];
                case 2: return r[2];
                case 3: return r[1] + r[2] - r[3];
                case 4: return r[2] + r[3];
                default: return 1;
            }
        }

        List<Integer> readersTold(int n) {
            State s = image.copy();
            List<Integer> row = new ArrayList<>();
            for (int i = 0; i < n; i++) {
                int[] sort = s.sorts.get(i % s.sorts.size());
                int day = s.drawnDay(sort, s.brings(sort));
                row.add(day == NONE ? -1 : day);
                row.add(day == NONE ? 0 : s.o(day));
            }
            return row;
        }

        private boolean isSort(int i) {
            return in(i, 0, now.sorts.size() - 1);
        }

        private boolean isRule(int i) {
            return in(i, 0, now.rules.size() - 1);
        }

        long answer(int[] c) {
            String name = CALLS[c[0]];
            switch (name) {
                case "sort3": case "sortTold2": case "change3": case "deal1": return sorts(name, c);
                case "rule4": case "told2": case "as2": case "turns2": case "set3": case "owes2": case "force1": case "card1":
                    return rules(name, c);
                case "reader3": case "first2": case "run1": case "year0": case "seed1": return readers(name, c);
                case "library1": case "find0": case "edge1": case "write0": case "least0": return library(name, c);
                case "feed3": case "trim1": case "text0": case "textTold2": case "why1": return texts(name, c);
                case "sheet3": case "mark3": case "learn1": case "reads2": case "copy5": return sheets(name, c);
                case "lay3": case "ask2": case "item2": case "rest2": return slots(name, c);
                default: return rows(name, c);
            }
        }

        private long sorts(String name, int[] c) {
            int[] most = {99, 100, 99, 9, 9999, 99, 9999};
            switch (name) {
                case "sort3":
                    if (!in(c[1], 0, 99) || !in(c[2], 0, 100) || !in(c[3], 0, 99)) {
                        return BAD;
                    }
                    if (now.sorts.size() == 6) {
                        return FULL;
                    }
                    now.sorts.add(new int[] {c[1], c[2], c[3], 0, 9999, 0, 500});
                    return now.sorts.size() - 1;
                case "sortTold2":
                    return isSort(c[1]) && in(c[2], 0, 6) ? now.sorts.get(c[1])[c[2]] : BAD;
                case "change3":
                    if (!isSort(c[1]) || !in(c[2], 0, 6) || !in(c[3], 0, most[c[2]])) {
                        return BAD;
                    }
                    int was = now.sorts.get(c[1])[c[2]];
                    now.sorts.get(c[1])[c[2]] = c[3];
                    return was;
                default:
                    if (!in(c[1], 1, 6)) {
                        return BAD;
                    }
                    int came = 0;
                    while (came < c[1] && now.sorts.size() < 6) {
                        int[] s = {now.draw() % 100, now.draw() % 101, now.draw() % 100, now.draw() % 10, 9999, now.draw() % 20, 500};
                        now.sorts.add(s);
                        came++;
                    }
                    return came;
            }
        }

        private long rules(String name, int[] c) {
            int[] r = name.equals("rule4") || !isRule(c[1]) ? null : now.rules.get(c[1]);
            int was;
            switch (name) {
                case "rule4":
                    if (!in(c[1], 0, 5) || !in(c[2], 0, 99) || !in(c[3], 0, 999) || !in(c[4], 1, 30)) {
                        return BAD;
                    }
                    if (now.rules.size() == 8) {
                        return FULL;
                    }
                    now.rules.add(new int[] {c[1], c[2], c[3], c[4]});
                    return now.rules.size() - 1;
                case "told2":
                    return r == null || !in(c[2], 0, 4) ? BAD : c[2] == 4 ? worth(r) : r[c[2]];
                case "as2":
                    return r == null || !in(c[2], 0, 5) ? BAD : under(r[0], c[2]) ? r[1] : KIND;
                case "turns2":
                    if (r == null || !in(c[2], 0, 5)) {
                        return BAD;
                    }
                    was = r[0];
                    r[0] = c[2];
                    return was;
                case "set3":
                    if (r == null || !in(c[2], 0, 2) || !in(c[3], c[2] == 2 ? 1 : 0, new int[] {99, 999, 30}[c[2]])) {
                        return BAD;
                    }
                    was = r[c[2] + 1];
                    r[c[2] + 1] = c[3];
                    return was;
                case "owes2":
                    return r == null || !in(c[2], 0, 30) ? BAD : now.owes(r, c[2]);
                case "force1":
                    if (r == null && c[1] != NONE) {
                        return BAD;
                    }
                    was = now.force;
                    now.force = c[1];
                    return was;
                default:
                    if (!in(c[1], 0, 30) && c[1] != NONE) {
                        return BAD;
                    }
                    was = now.card;
                    now.card = c[1];
                    return was;
            }
        }

        private long readers(String name, int[] c) {
            if (name.equals("seed1")) {
                int was = now.z;
                now.z = c[1];
                return was;
            }
            if (name.equals("year0")) {
                int brought = 0;
                for (int[] s : now.sorts) {
                    boolean[] brings = now.brings(s);
                    for (int i = 0; i < s[0]; i++) {
                        brought += now.drawnDay(s, brings) == NONE ? 0 : 1;
                    }
                }
                return brought;
            }
            if (!isSort(c[1])) {
                return BAD;
            }
            int[] s = now.sorts.get(c[1]);
            if (name.equals("run1")) {
                return now.drawnDay(s, now.brings(s));
            }
            int[] out = now.outs(s);
            if (name.equals("first2")) {
                boolean[] brings = now.brings(s);
                for (int d = 0; d < 31 && in(c[2], 0, 2); d++) {
                    if (new boolean[] {brings[d], now.o(d) > s[4], out[d + 1] <= 500000}[c[2]]) {
                        return d;
                    }
                }
                return in(c[2], 0, 2) ? NONE : BAD;
            }
            int d = c[2];
            if (!in(d, 0, 30) || !in(c[3], 0, 6)) {
                return BAD;
            }
            int[] cost = now.costs(s);
            return new int[] {now.f(s, d), now.bringing(s, d), cost[d + 1] - s[5], cost[d], now.brings(s)[d] ? 1 : 0,
                out[d] - out[d + 1], out[d + 1]}[c[3]];
        }

        private long library(String name, int[] c) {
            State s = now.copy();
            int best = NONE;
            switch (name) {
                case "library1":
                    return in(c[1], 0, 3) ? now.library(c[1]) : BAD;
                case "find0":
                    if (now.force == NONE) {
                        return NO;
                    }
                    long least = Long.MAX_VALUE;
                    for (int a = 0; a <= 40; a++) {
                        s.rules.get(s.force)[1] = a;
                        long days = s.library(0);
                        if (days < least) {
                            least = days;
                            best = a;
                        }
                    }
                    return best;
                case "edge1":
                    if (!isSort(c[1]) || now.force == NONE) {
                        return isSort(c[1]) ? NO : BAD;
                    }
                    int[] sort = s.sorts.get(c[1]);
                    s.rules.get(s.force)[1] = 0;
                    int free = s.outs(sort)[31];
                    for (int a = 0; a < 100; a++) {
                        s.rules.get(s.force)[1] = a;
                        if (s.outs(sort)[31] > free) {
                            return a;
                        }
                    }
                    return NONE;
                case "write0":
                    s.card = NONE;
                    long none = s.library(0);
                    for (int day = 0; day < 31; day++) {
                        s.card = day;
                        long days = s.library(0);
                        if (days < none) {
                            none = days;
                            best = day;
                        }
                    }
                    return best;
                default:
                    for (int i = 0; i < s.rules.size(); i++) {
                        if (best == NONE) {
                            best = i;
                            continue;
                        }
                        s.force = best;
                        long days = s.library(0);
                        long coin = s.library(1);
                        s.force = i;
                        if (s.library(0) < days || s.library(0) == days && s.library(1) > coin) {
                            best = i;
                        }
                    }
                    return best;
            }
        }

        private long texts(String name, int[] c) {
            switch (name) {
                case "feed3":
                    if (tape.length + 12 > 96) {
                        return FULL;
                    }
                    int from = tape.length;
                    tape = Arrays.copyOf(tape, from + 12);
                    for (int i = 0; i < 12; i++) {
                        tape[from + i] = (byte) (c[1 + i / 4] >> 24 - i % 4 * 8);
                    }
                    return tape.length;
                case "trim1":
                    if (!in(c[1], 0, tape.length)) {
                        return BAD;
                    }
                    tape = Arrays.copyOf(tape, c[1]);
                    return c[1];
                case "text0":
                    Law law = new Law(tape);
                    tape = new byte[0];
                    try {
                        law.work(1, 2, 3);
                    } catch (Fault f) {
                        return -100 - f.place;
                    }
                    if (now.laws.size() == 14) {
                        return FULL;
                    }
                    now.laws.add(law);
                    return now.laws.size() - 1;
                case "textTold2":
                    if (!in(c[1], 0, now.laws.size() - 1) || !in(c[2], 0, 1)) {
                        return BAD;
                    }
                    return c[2] == 0 ? now.laws.get(c[1]).key : now.laws.get(c[1]).leaves;
                default:
                    return in(c[1], 0, 2) ? now.counting(c[1]) : BAD;
            }
        }

        private long sheets(String name, int[] c) {
            if (!in(c[1], 0, 3)) {
                return BAD;
            }
            Integer[] row = sheets[c[1]];
            switch (name) {
                case "sheet3":
                    if (!in(c[2], -1, 1)) {
                        return BAD;
                    }
                    if (c[2] == -1) {
                        sheets[c[1]] = null;
                        return 0;
                    }
                    if (c[3] > 24 || c[3] < 0) {
                        return c[3] < 0 ? SIZE : BAD;
                    }
                    sheets[c[1]] = new Integer[c[3]];
                    Arrays.fill(sheets[c[1]], 0);
                    sheetSorts[c[1]] = c[2];
                    return c[3];
                case "mark3":
                    if (row == null) {
                        return NOTHING;
                    }
                    if (!in(c[2], 0, row.length - 1)) {
                        return INDEX;
                    }
                    if (sheetSorts[c[1]] == 0 && c[3] == NONE) {
                        return KIND;
                    }
                    if (sheetSorts[c[1]] == 1 && c[3] != NONE && Math.abs((long) c[3]) > 99999) {
                        return BAD;
                    }
                    row[c[2]] = c[3] == NONE ? null : sheetSorts[c[1]] == 0 ? (c[3] << 16 >> 16) : c[3];
                    return 1;
                case "learn1":
                    return row == null ? NOTHING : learnt(row);
                case "reads2":
                    if (!isRule(c[2]) || row == null) {
                        return isRule(c[2]) ? NOTHING : BAD;
                    }
                    for (int k = 0; k < row.length; k++) {
                        if (row[k] != null && row[k] != now.owes(now.rules.get(c[2]), k)) {
                            return k;
                        }
                    }
                    return NONE;
                default:
                    return copied(c);
            }
        }

        private long learnt(Integer[] row) {
            int best = NONE;
            long least = Long.MAX_VALUE;
            for (int i = 0; i < now.sorts.size(); i++) {
                int[] out = now.outs(now.sorts.get(i));
                long apart = 0;
                for (int k = 0; k < row.length; k++) {
                    apart += row[k] == null ? 0 : Math.abs(row[k] - (out[k] - out[k + 1]) / 10000);
                }
                if (apart < least) {
                    least = apart;
                    best = i;
                }
            }
            return best;
        }

        private long copied(int[] c) {
            if (!in(c[3], 0, 3)) {
                return BAD;
            }
            Integer[] from = sheets[c[1]];
            Integer[] to = sheets[c[3]];
            if (from == null || to == null) {
                return NOTHING;
            }
            if (sheetSorts[c[1]] != sheetSorts[c[3]]) {
                return KIND;
            }
            try {
                System.arraycopy(from, c[2], to, c[4], c[5]);
            } catch (IndexOutOfBoundsException e) {
                return INDEX;
            }
            return c[5];
        }

        private static int thingIn(Object held) {
            return held == null ? 0 : held instanceof int[] ? 1 : held instanceof Integer[] ? 2 : 3;
        }

        private long slots(String name, int[] c) {
            if (!in(c[1], 0, 4)) {
                return BAD;
            }
            Object held = slots[c[1]];
            int thing = thingIn(held);
            if (name.equals("lay3")) {
                if (!in(c[2], 0, 3) || c[2] == 1 && !isRule(c[3]) || c[2] == 2 && !in(c[3], 0, 3)) {
                    return BAD;
                }
                if (c[2] == 2 && sheets[c[3]] == null) {
                    return NOTHING;
                }
                slots[c[1]] = c[2] == 0 ? null : c[2] == 1 ? now.rules.get(c[3]).clone() : c[2] == 2 ? sheets[c[3]].clone() : (Object) c[3];
                return thing;
            }
            if (name.equals("ask2") && !in(c[2], 0, 5)) {
                return BAD;
            }
            if (thing == 0) {
                return NOTHING;
            }
            if (name.equals("ask2")) {
                return thing != 1 || !under(((int[]) held)[0], c[2]) ? KIND : worth((int[]) held);
            }
            if (name.equals("item2")) {
                if (thing != 2) {
                    return KIND;
                }
                Integer[] row = (Integer[]) held;
                return !in(c[2], 0, row.length - 1) ? INDEX : row[c[2]] == null ? KIND : row[c[2]];
            }
            return thing != 3 ? KIND : c[2] == 0 ? NO : (Integer) held % c[2];
        }

        private long rows(String name, int[] c) {
            switch (name) {
                case "tell1":
                    if (waiting.size() == 60) {
                        return FULL;
                    }
                    waiting.add(c[1]);
                    return waiting.size();
                case "check1":
                    List<Integer> row = waiting;
                    waiting = new ArrayList<>();
                    if (!in(c[1], 1, 30)) {
                        return BAD;
                    }
                    if (image == null || image.sorts.isEmpty()) {
                        return NO;
                    }
                    List<Integer> due = readersTold(c[1]);
                    int same = 0;
                    while (same < due.size() && same < row.size() && due.get(same).equals(row.get(same))) {
                        same++;
                    }
                    return same == due.size() && same == row.size() ? 0 : 1 + same;
                case "keep0":
                    image = now.copy();
                    return image.sorts.size();
                case "back0":
                    if (image == null) {
                        return NO;
                    }
                    now = image.copy();
                    return now.sorts.size();
                default:
                    if (!in(c[1], 0, 7)) {
                        return BAD;
                    }
                    return new int[] {now.sorts.size(), now.rules.size(), now.force, now.card, now.laws.size(), waiting.size(),
                        tape.length, now.z}[c[1]];
            }
        }
    }
}
