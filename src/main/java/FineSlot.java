import java.util.Arrays;

/** Fines that bring books back. What each call answers is told in the document's promises. */
public final class FineSlot {
    public static final int BAD = -1000000001, NO = -1000000002, FULL = -1000000003, NONE = -1000000005, NOTHING = -1000000011, KIND = -1000000012, INDEX = -1000000013, SIZE = -1000000014;

    private static final int DAYS = 31, ALL_OUT = 1000000;
    private static final int SORTS = 6, RULES = 8, TEXTS = 14, TAPE = 96;
    private static final int SHEETS = 4, PLACES = 24, SLOTS = 5, WAITING = 60;

    // What a sort has, as sortTold() numbers it.
    private static final int MANY = 0, FORGETS = 1, WALK = 2, SHAME = 3, LIMIT = 4, READS = 5, NEVER = 6;
    private static final int QUALITIES = 7;
    private static final int[] MOST_OF_SORT = {99, 100, 99, 9, 9999, 99, 9999};

    private static final int DAILY = 1, FLAT = 2, CAPPED = 3, FORGIVING = 4, PARDON = 5;
    private static final int KINDS = 6;
    private static final int[] KIND_ABOVE = {-1, 0, 0, DAILY, FLAT, 0};

    // a, b and c of a rule, as set() numbers them.
    private static final int PARTS = 3;
    private static final int[] LEAST_OF_RULE = {0, 0, 1};
    private static final int[] MOST_OF_RULE = {99, 999, 30};

    private static final int OWE = 0, SHAMES = 1, FORGET = 2;
    private static final int KEYS = 3;

    private static final int MISSING = -1, SHORTS = 0, FLOATS = 1;
    private static final int MOST_OF_FLOATS = 99999;

    private static final int HOLDS_NOTHING = 0, HOLDS_RULE = 1, HOLDS_SHEET = 2, HOLDS_NUMBER = 3;

    private static final int MOST_FOUND = 40, MOST_AT_EDGE = 99, MOST_CHECKED = 30;

    private final World now = new World();
    private final World image = new World();
    private boolean kept = false;
    private final Plan plan = new Plan();
    private final Rule trial = new Rule();
    private final Dice imageDice = new Dice();
    private final Parser parser = new Parser();
    private final Sheet[] sheets = new Sheet[SHEETS];
    private final Slot[] slots = new Slot[SLOTS];
    private final int[] waiting = new int[WAITING];
    private int waits = 0;

    public FineSlot() {
        for (int i = 0; i < SHEETS; i++) {
            sheets[i] = new Sheet();
        }
        for (int i = 0; i < SLOTS; i++) {
            slots[i] = new Slot();
        }
    }

    // ---- sorts

    public int sort(int many, int forgets, int walk) {
        if (!fitsSort(MANY, many) || !fitsSort(FORGETS, forgets) || !fitsSort(WALK, walk)) {
            return BAD;
        }
        return now.addSort(many, forgets, walk);
    }

    public int sortTold(int sort, int what) {
        if (!now.hasSort(sort) || !within(what, 0, QUALITIES - 1)) {
            return BAD;
        }
        return now.sorts[sort][what];
    }

    public int change(int sort, int what, int v) {
        if (!now.hasSort(sort) || !fitsSort(what, v)) {
            return BAD;
        }
        int was = now.sorts[sort][what];
        now.sorts[sort][what] = v;
        return was;
    }

    public int deal(int n) {
        if (!within(n, 1, SORTS)) {
            return BAD;
        }
        int came = Math.min(n, SORTS - now.sortCount);
        for (int i = 0; i < came; i++) {
            now.drawSort();
        }
        return came;
    }

    // ---- rules

    public int rule(int kind, int a, int b, int c) {
        if (!isKind(kind) || !fitsRule(0, a) || !fitsRule(1, b) || !fitsRule(2, c)) {
            return BAD;
        }
        return now.addRule(kind, a, b, c);
    }

    public int told(int rule, int what) {
        Rule r = now.ruleAt(rule);
        if (r == null || !within(what, 0, 4)) {
            return BAD;
        }
        if (what == 0) {
            return r.kind;
        }
        return what == 4 ? r.worth() : r.parts[what - 1];
    }

    public int as(int rule, int kind) {
        Rule r = now.ruleAt(rule);
        if (r == null || !isKind(kind)) {
            return BAD;
        }
        return isUnder(r.kind, kind) ? r.parts[0] : KIND;
    }

    public int turns(int rule, int kind) {
        Rule r = now.ruleAt(rule);
        if (r == null || !isKind(kind)) {
            return BAD;
        }
        int was = r.kind;
        r.kind = kind;
        return was;
    }

    public int set(int rule, int what, int v) {
        Rule r = now.ruleAt(rule);
        if (r == null || !fitsRule(what, v)) {
            return BAD;
        }
        int was = r.parts[what];
        r.parts[what] = v;
        return was;
    }

    public int owes(int rule, int day) {
        Rule r = now.ruleAt(rule);
        if (r == null || !isDay(day)) {
            return BAD;
        }
        return now.owedBy(r, day);
    }

    public int force(int rule) {
        if (rule != NONE && now.ruleAt(rule) == null) {
            return BAD;
        }
        int was = now.inForce;
        now.inForce = rule;
        return was;
    }

    public int card(int day) {
        if (day != NONE && !isDay(day)) {
            return BAD;
        }
        int was = now.cardDay;
        now.cardDay = day;
        return was;
    }

    // ---- readers

    public int reader(int sort, int day, int what) {
        if (!now.hasSort(sort) || !isDay(day) || !within(what, 0, 6)) {
            return BAD;
        }
        plan.followOne(now, sort);
        return plan.partOf(sort, day, what);
    }

    public int first(int sort, int what) {
        if (!now.hasSort(sort) || !within(what, 0, 2)) {
            return BAD;
        }
        plan.followOne(now, sort);
        return plan.firstDay(what, now.sorts[sort][LIMIT]);
    }

    public int run(int sort) {
        if (!now.hasSort(sort)) {
            return BAD;
        }
        plan.followOne(now, sort);
        return plan.drawDay(sort, now.dice);
    }

    public int year() {
        plan.take(now);
        int brought = 0;
        for (int s = 0; s < now.sortCount; s++) {
            plan.follow(now, s);
            int many = now.sorts[s][MANY];
            for (int i = 0; i < many; i++) {
                if (plan.drawDay(s, now.dice) != NONE) {
                    brought++;
                }
            }
        }
        return brought;
    }

    public int seed(int v) {
        int was = now.dice.z;
        now.dice.z = v;
        return was;
    }

    // ---- the library

    public long library(int what) {
        if (!within(what, 0, 3)) {
            return BAD;
        }
        plan.take(now);
        plan.tally(now, now.cardDay);
        if (what == 0) {
            return plan.days;
        }
        if (what == 1) {
            return plan.coin;
        }
        return what == 2 ? plan.lost : plan.cards;
    }

    public int find() {
        Rule rule = now.ruleInForce();
        if (rule == null) {
            return NO;
        }
        trial.become(rule);
        plan.takeCard(now, now.cardDay);
        int best = NONE;
        long least = 0;
        for (int a = 0; a <= MOST_FOUND; a++) {
            trial.parts[0] = a;
            plan.takeRule(now, trial);
            plan.tally(now, now.cardDay);
            if (best == NONE || plan.days < least) {
                best = a;
                least = plan.days;
            }
        }
        return best;
    }

    public int edge(int sort) {
        if (!now.hasSort(sort)) {
            return BAD;
        }
        Rule rule = now.ruleInForce();
        if (rule == null) {
            return NO;
        }
        trial.become(rule);
        plan.forgetting(now, sort, now.cardDay);
        int free = lostAt(sort, 0);
        for (int a = 1; a <= MOST_AT_EDGE; a++) {
            if (lostAt(sort, a) > free) {
                return a;
            }
        }
        return NONE;
    }

    public int write() {
        plan.takeRule(now, now.ruleInForce());
        int best = NONE;
        long least = 0;
        for (int i = -1; i < DAYS; i++) {
            int day = i < 0 ? NONE : i;
            plan.takeCard(now, day);
            plan.tally(now, day);
            if (day == NONE || plan.days < least) {
                best = day;
                least = plan.days;
            }
        }
        return best;
    }

    public int least() {
        plan.takeCard(now, now.cardDay);
        int best = NONE;
        long days = 0;
        long coin = 0;
        for (int i = 0; i < now.ruleCount; i++) {
            plan.takeRule(now, now.ruleAt(i));
            plan.tally(now, now.cardDay);
            if (best == NONE || plan.days < days || plan.days == days && plan.coin > coin) {
                best = i;
                days = plan.days;
                coin = plan.coin;
            }
        }
        return best;
    }

    // ---- texts

    public int feed(int a, int b, int c) {
        if (parser.tape.size > TAPE - 12) {
            return FULL;
        }
        parser.tape.addFour(a);
        parser.tape.addFour(b);
        parser.tape.addFour(c);
        return parser.tape.size;
    }

    public int trim(int n) {
        if (!within(n, 0, parser.tape.size)) {
            return BAD;
        }
        parser.tape.size = n;
        return n;
    }

    public int text() {
        int fault = parser.findFault();
        parser.tape.size = 0;
        if (fault != NONE) {
            return -100 - fault;
        }
        if (now.textCount >= TEXTS) {
            return FULL;
        }
        return now.addText(parser.made());
    }

    public int textTold(int text, int what) {
        Text t = now.textAt(text);
        if (t == null || !within(what, 0, 1)) {
            return BAD;
        }
        return what == 0 ? t.key : t.leaves;
    }

    public int why(int key) {
        return within(key, 0, KEYS - 1) ? now.counting[key] : BAD;
    }

    // ---- sheets, slots

    public int sheet(int sheet, int sort, int n) {
        Sheet s = sheetAt(sheet);
        if (s == null || !within(sort, MISSING, FLOATS) || sort != MISSING && n > PLACES) {
            return BAD;
        }
        if (sort != MISSING && n < 0) {
            return SIZE;
        }
        s.renew(sort, sort == MISSING ? 0 : n);
        return s.size;
    }

    public int mark(int sheet, int place, int v) {
        Sheet s = sheetAt(sheet);
        if (s == null) {
            return BAD;
        }
        if (s.sort == MISSING) {
            return NOTHING;
        }
        if (!s.has(place)) {
            return INDEX;
        }
        if (s.sort == SHORTS && v == NONE) {
            return KIND;
        }
        if (s.sort == FLOATS && v != NONE && !within(v, -MOST_OF_FLOATS, MOST_OF_FLOATS)) {
            return BAD;
        }
        s.places[place] = s.sort == SHORTS ? (short) v : v;
        return 1;
    }

    public int learn(int sheet) {
        Sheet s = sheetAt(sheet);
        if (s == null) {
            return BAD;
        }
        if (s.sort == MISSING) {
            return NOTHING;
        }
        plan.take(now);
        int best = NONE;
        int least = 0;
        for (int i = 0; i < now.sortCount; i++) {
            plan.follow(now, i);
            int apart = plan.differenceFrom(s);
            if (best == NONE || apart < least) {
                best = i;
                least = apart;
            }
        }
        return best;
    }

    public int reads(int sheet, int rule) {
        Sheet s = sheetAt(sheet);
        Rule r = now.ruleAt(rule);
        if (s == null || r == null) {
            return BAD;
        }
        if (s.sort == MISSING) {
            return NOTHING;
        }
        for (int k = 0; k < PLACES; k++) {
            if (s.hasNumber(k) && s.places[k] != now.owedBy(r, k)) {
                return k;
            }
        }
        return NONE;
    }

    public int copy(int from, int place, int to, int at, int many) {
        Sheet source = sheetAt(from);
        Sheet goal = sheetAt(to);
        if (source == null || goal == null) {
            return BAD;
        }
        if (source.sort == MISSING || goal.sort == MISSING) {
            return NOTHING;
        }
        if (source.sort != goal.sort) {
            return KIND;
        }
        if (!source.hasRow(place, many) || !goal.hasRow(at, many)) {
            return INDEX;
        }
        System.arraycopy(source.places, place, goal.places, at, many);
        return many;
    }

    public int lay(int slot, int thing, int k) {
        Slot s = slotAt(slot);
        if (s == null || !within(thing, HOLDS_NOTHING, HOLDS_NUMBER)) {
            return BAD;
        }
        int was = s.thing;
        if (thing == HOLDS_RULE) {
            Rule r = now.ruleAt(k);
            if (r == null) {
                return BAD;
            }
            s.rule.become(r);
        }
        if (thing == HOLDS_SHEET) {
            Sheet laid = sheetAt(k);
            if (laid == null) {
                return BAD;
            }
            if (laid.sort == MISSING) {
                return NOTHING;
            }
            s.sheet.become(laid);
        }
        s.number = k;
        s.thing = thing;
        return was;
    }

    public int ask(int slot, int kind) {
        Slot s = slotAt(slot);
        if (s == null || !isKind(kind)) {
            return BAD;
        }
        int refusal = s.refusalUnless(HOLDS_RULE);
        if (refusal != NONE) {
            return refusal;
        }
        return isUnder(s.rule.kind, kind) ? s.rule.worth() : KIND;
    }

    public int item(int slot, int place) {
        Slot s = slotAt(slot);
        if (s == null) {
            return BAD;
        }
        int refusal = s.refusalUnless(HOLDS_SHEET);
        if (refusal != NONE) {
            return refusal;
        }
        if (!s.sheet.has(place)) {
            return INDEX;
        }
        return s.sheet.hasNumber(place) ? s.sheet.places[place] : KIND;
    }

    public int rest(int slot, int n) {
        Slot s = slotAt(slot);
        if (s == null) {
            return BAD;
        }
        int refusal = s.refusalUnless(HOLDS_NUMBER);
        if (refusal != NONE) {
            return refusal;
        }
        return n == 0 ? NO : s.number % n;
    }

    // ---- rows, images

    public int tell(int v) {
        if (waits >= WAITING) {
            return FULL;
        }
        waiting[waits] = v;
        waits++;
        return waits;
    }

    public int check(int n) {
        int came = waits;
        waits = 0;
        if (!within(n, 1, MOST_CHECKED)) {
            return BAD;
        }
        if (!kept || image.sortCount <= 0) {
            return NO;
        }
        plan.take(image);
        imageDice.z = image.dice.z;
        for (int i = 0; i < n; i++) {
            int sort = i % image.sortCount;
            plan.follow(image, sort);
            int day = plan.drawDay(sort, imageDice);
            if (!waitsAt(2 * i, came, day == NONE ? -1 : day)) {
                return 2 * i + 1;
            }
            if (!waitsAt(2 * i + 1, came, plan.owedOn(day))) {
                return 2 * i + 2;
            }
        }
        return came > 2 * n ? 2 * n + 1 : 0;
    }

    public int keep() {
        image.become(now);
        kept = true;
        return image.sortCount;
    }

    public int back() {
        if (!kept) {
            return NO;
        }
        now.become(image);
        return now.sortCount;
    }

    public int count(int what) {
        switch (what) {
            case 0:
                return now.sortCount;
            case 1:
                return now.ruleCount;
            case 2:
                return now.inForce;
            case 3:
                return now.cardDay;
            case 4:
                return now.textCount;
            case 5:
                return waits;
            case 6:
                return parser.tape.size;
            case 7:
                return now.dice.z;
            default:
                return BAD;
        }
    }

    // ---- what the calls have in common

    private static boolean within(int v, int least, int most) {
        return v >= least && v <= most;
    }

    private static int held(int v, int least, int most) {
        return Math.max(least, Math.min(most, v));
    }

    private static boolean isDay(int day) {
        return within(day, 0, DAYS - 1);
    }

    private static boolean isKind(int kind) {
        return within(kind, 0, KINDS - 1);
    }

    private static boolean isUnder(int kind, int above) {
        int k = kind;
        for (int i = 0; i < KINDS && isKind(k); i++) {
            if (k == above) {
                return true;
            }
            k = KIND_ABOVE[k];
        }
        return false;
    }

    private static boolean fitsSort(int what, int v) {
        return within(what, 0, QUALITIES - 1) && within(v, 0, MOST_OF_SORT[what]);
    }

    private static boolean fitsRule(int what, int v) {
        return within(what, 0, PARTS - 1) && within(v, LEAST_OF_RULE[what], MOST_OF_RULE[what]);
    }

    private Sheet sheetAt(int sheet) {
        return within(sheet, 0, SHEETS - 1) ? sheets[sheet] : null;
    }

    private Slot slotAt(int slot) {
        return within(slot, 0, SLOTS - 1) ? slots[slot] : null;
    }

    private boolean waitsAt(int place, int came, int v) {
        return within(place, 0, WAITING - 1) && place < came && waiting[place] == v;
    }

    /** OUT behind the last day of a sort, with the trial rule's a as told; the sort's F has been taken. */
    private int lostAt(int sort, int a) {
        trial.parts[0] = a;
        plan.takeRule(now, trial);
        plan.follow(now, sort);
        return plan.out[DAYS - 1];
    }

    private static final class Dice {
        int z = 1;

        int restBy(int n) {
            z = z * 1103515245 + 12345;
            return n > 0 ? (z >>> 8) % n : 0;
        }
    }

    private static final class Rule {
        int kind = 0;
        final int[] parts = new int[PARTS];

        void become(Rule other) {
            kind = other.kind;
            System.arraycopy(other.parts, 0, parts, 0, PARTS);
        }

        int worth() {
            switch (kind) {
                case DAILY:
                    return parts[0] + parts[1];
                case CAPPED:
                    return parts[0] + parts[1] - parts[2];
                case FLAT:
                    return parts[1];
                case FORGIVING:
                    return parts[1] + parts[2];
                case PARDON:
                    return 1;
                default:
                    return parts[0];
            }
        }

        /** What this kind makes on a day of what a plain RULE asks. */
        int owedFrom(int plain, int day) {
            switch (kind) {
                case DAILY:
                    return day * plain;
                case CAPPED:
                    return Math.min(day * plain, parts[1]);
                case FLAT:
                    return plain + parts[1];
                case FORGIVING:
                    return parts[2] > 0 && day % parts[2] == 0 ? 0 : plain + parts[1];
                case PARDON:
                    return 0;
                default:
                    return plain;
            }
        }
    }

    /** All that an image keeps. */
    private static final class World {
        final int[][] sorts = new int[SORTS][QUALITIES];
        int sortCount = 0;
        final Rule[] rules = new Rule[RULES];
        int ruleCount = 0;
        int inForce = NONE;
        int cardDay = NONE;
        final Text[] texts = new Text[TEXTS];
        int textCount = 0;
        final int[] counting = {NONE, NONE, NONE};
        final Dice dice = new Dice();
        final int[] stack = new int[TAPE];

        World() {
            for (int i = 0; i < RULES; i++) {
                rules[i] = new Rule();
            }
        }

        void become(World other) {
            for (int i = 0; i < SORTS; i++) {
                System.arraycopy(other.sorts[i], 0, sorts[i], 0, QUALITIES);
            }
            sortCount = other.sortCount;
            for (int i = 0; i < RULES; i++) {
                rules[i].become(other.rules[i]);
            }
            ruleCount = other.ruleCount;
            inForce = other.inForce;
            cardDay = other.cardDay;
            // A text never changes once it is made, so both may hold the same one.
            for (int i = 0; i < TEXTS; i++) {
                texts[i] = other.texts[i];
            }
            textCount = other.textCount;
            System.arraycopy(other.counting, 0, counting, 0, KEYS);
            dice.z = other.dice.z;
        }

        boolean hasSort(int sort) {
            return within(sort, 0, sortCount - 1);
        }

        int addSort(int many, int forgets, int walk) {
            if (sortCount >= SORTS) {
                return FULL;
            }
            int[] reader = sorts[sortCount];
            reader[MANY] = many;
            reader[FORGETS] = forgets;
            reader[WALK] = walk;
            reader[SHAME] = 0;
            reader[LIMIT] = 9999;
            reader[READS] = 0;
            reader[NEVER] = 500;
            sortCount++;
            return sortCount - 1;
        }

        void drawSort() {
            int many = dice.restBy(100);
            int forgets = dice.restBy(101);
            int walk = dice.restBy(100);
            int sort = addSort(many, forgets, walk);
            if (hasSort(sort)) {
                sorts[sort][SHAME] = dice.restBy(10);
                sorts[sort][READS] = dice.restBy(20);
            }
        }

        int addRule(int kind, int a, int b, int c) {
            if (ruleCount >= RULES) {
                return FULL;
            }
            Rule r = rules[ruleCount];
            r.kind = kind;
            r.parts[0] = a;
            r.parts[1] = b;
            r.parts[2] = c;
            ruleCount++;
            return ruleCount - 1;
        }

        Rule ruleAt(int rule) {
            return within(rule, 0, ruleCount - 1) ? rules[rule] : null;
        }

        Rule ruleInForce() {
            return ruleAt(inForce);
        }

        int addText(Text text) {
            if (textCount >= TEXTS || !within(text.key, 0, KEYS - 1)) {
                return FULL;
            }
            texts[textCount] = text;
            counting[text.key] = textCount;
            textCount++;
            return textCount - 1;
        }

        Text textAt(int text) {
            return within(text, 0, textCount - 1) ? texts[text] : null;
        }

        /** OWES of a day by a rule, or by none. */
        int owedBy(Rule rule, int day) {
            if (rule == null) {
                return 0;
            }
            Text law = textAt(counting[OWE]);
            if (law == null) {
                return rule.owedFrom(rule.parts[0], day);
            }
            return rule.owedFrom(held(law.workOut(stack, day, rule.parts[0], rule.parts[1]), 0, 999), day);
        }

        int shameOf(int shame, int owed) {
            Text law = textAt(counting[SHAMES]);
            return law == null ? shame * owed / 10 : held(law.workOut(stack, owed, shame, 0), 0, 9999);
        }

        int forgetsOn(int day, int forgets, int card) {
            Text law = textAt(counting[FORGET]);
            if (law != null) {
                return held(law.workOut(stack, day, forgets, 0), 0, 100);
            }
            return card != NONE && day >= card ? forgets / 2 : forgets;
        }
    }

    /**
     * What readers do day by day. F of all sorts and OWES are taken first, each by itself, since a search
     * changes only one of them; then one sort at a time is followed.
     */
    private static final class Plan {
        final int[] owed = new int[DAYS];
        final int[][] forgets = new int[SORTS][DAYS];
        final int[] bringing = new int[DAYS];
        final int[] keeping = new int[DAYS];
        final int[] cost = new int[DAYS];
        final boolean[] brings = new boolean[DAYS];
        final int[] brought = new int[DAYS];
        final int[] out = new int[DAYS];
        long days = 0;
        long coin = 0;
        long lost = 0;
        long cards = 0;

        void take(World world) {
            takeRule(world, world.ruleInForce());
            takeCard(world, world.cardDay);
        }

        void takeRule(World world, Rule rule) {
            for (int day = 0; day < DAYS; day++) {
                owed[day] = world.owedBy(rule, day);
            }
        }

        void takeCard(World world, int card) {
            for (int sort = 0; sort < world.sortCount; sort++) {
                forgetting(world, sort, card);
            }
        }

        void forgetting(World world, int sort, int card) {
            if (!world.hasSort(sort)) {
                return;
            }
            for (int day = 0; day < DAYS; day++) {
                forgets[sort][day] = world.forgetsOn(day, world.sorts[sort][FORGETS], card);
            }
        }

        void followOne(World world, int sort) {
            takeRule(world, world.ruleInForce());
            forgetting(world, sort, world.cardDay);
            follow(world, sort);
        }

        void follow(World world, int sort) {
            if (!world.hasSort(sort)) {
                return;
            }
            decide(world, world.sorts[sort], forgets[sort]);
            bring(forgets[sort]);
        }

        private void decide(World world, int[] reader, int[] f) {
            int next = reader[NEVER];
            for (int day = DAYS - 1; day >= 0; day--) {
                int o = owed[day];
                bringing[day] = reader[WALK] + o + world.shameOf(reader[SHAME], o);
                keeping[day] = next - reader[READS];
                brings[day] = o <= reader[LIMIT] && bringing[day] <= keeping[day];
                int chosen = brings[day] ? bringing[day] : keeping[day];
                cost[day] = (f[day] * keeping[day] + (100 - f[day]) * chosen) / 100;
                next = cost[day];
            }
        }

        private void bring(int[] f) {
            int left = ALL_OUT;
            for (int day = 0; day < DAYS; day++) {
                brought[day] = brings[day] ? left * (100 - f[day]) / 100 : 0;
                left -= brought[day];
                out[day] = left;
            }
        }

        int partOf(int sort, int day, int what) {
            if (!within(sort, 0, SORTS - 1) || !isDay(day)) {
                return BAD;
            }
            switch (what) {
                case 0:
                    return forgets[sort][day];
                case 1:
                    return bringing[day];
                case 2:
                    return keeping[day];
                case 3:
                    return cost[day];
                case 4:
                    return brings[day] ? 1 : 0;
                case 5:
                    return brought[day];
                case 6:
                    return out[day];
                default:
                    return BAD;
            }
        }

        int firstDay(int what, int limit) {
            for (int day = 0; day < DAYS; day++) {
                boolean found = what == 0 ? brings[day] : what == 1 ? owed[day] > limit : out[day] <= ALL_OUT / 2;
                if (found) {
                    return day;
                }
            }
            return NONE;
        }

        int drawDay(int sort, Dice dice) {
            if (!within(sort, 0, SORTS - 1)) {
                return NONE;
            }
            for (int day = 0; day < DAYS; day++) {
                if (dice.restBy(100) >= forgets[sort][day] && brings[day]) {
                    return day;
                }
            }
            return NONE;
        }

        int owedOn(int day) {
            return isDay(day) ? owed[day] : 0;
        }

        int differenceFrom(Sheet sheet) {
            int apart = 0;
            for (int k = 0; k < PLACES; k++) {
                if (sheet.hasNumber(k)) {
                    apart += Math.abs(sheet.places[k] - brought[k] / 10000);
                }
            }
            return apart;
        }

        /** Adds up THE LIBRARY, by the rule and the card that have been taken. */
        void tally(World world, int card) {
            days = 0;
            coin = 0;
            lost = 0;
            cards = 0;
            for (int sort = 0; sort < world.sortCount; sort++) {
                follow(world, sort);
                addUp(world.sorts[sort][MANY], card);
            }
        }

        private void addUp(long many, int card) {
            long outOfAll = 0;
            long coinOfAll = 0;
            for (int day = 0; day < DAYS; day++) {
                outOfAll += out[day];
                coinOfAll += (long) brought[day] * owed[day];
            }
            days += many * outOfAll;
            coin += many * coinOfAll;
            lost += many * out[DAYS - 1];
            if (isDay(card)) {
                cards += many * (card == 0 ? ALL_OUT : out[card - 1]);
            }
        }
    }

    /** Bytes that have been fed, and the word or sign of them that is in hand. */
    private static final class Tape {
        // What is in hand, where it is not a sign, which is its own byte.
        static final int END = -1, LETTERS = 256, DIGITS = 257, WRONG = 258;

        final int[] bytes = new int[TAPE];
        int size = 0;
        int hand = END;
        int start = 0;
        private int stop = 0;

        void addFour(int v) {
            for (int shift = 24; shift >= 0 && size < TAPE; shift -= 8) {
                bytes[size] = v >>> shift & 255;
                size++;
            }
        }

        void rewind() {
            stop = 0;
            hand = END;
            advance();
        }

        void runOut() {
            stop = size;
            hand = END;
        }

        void advance() {
            int behind = stop;
            boolean wordBefore = hasWord();
            start = stop;
            while (start < size && bytes[start] == ' ') {
                start++;
            }
            if (start >= size) {
                runOut();
                return;
            }
            int b = bytes[start];
            stop = start + 1;
            hand = isLetter(b) ? LETTERS : isDigit(b) ? DIGITS : b;
            while (stop < size && goesOn(bytes[stop])) {
                stop++;
            }
            if (hasWord() && wordBefore && start == behind || hand == DIGITS && stop - start > 4) {
                hand = WRONG;
            }
        }

        private boolean hasWord() {
            return hand == LETTERS || hand == DIGITS;
        }

        private boolean goesOn(int b) {
            return hand == LETTERS && isLetter(b) || hand == DIGITS && isDigit(b);
        }

        private static boolean isLetter(int b) {
            return b >= 'a' && b <= 'z';
        }

        private static boolean isDigit(int b) {
            return b >= '0' && b <= '9';
        }

        boolean isWord(String word) {
            if (hand != LETTERS || stop - start != word.length()) {
                return false;
            }
            for (int i = 0; i < word.length() && start + i < size; i++) {
                if (bytes[start + i] != word.charAt(i)) {
                    return false;
                }
            }
            return true;
        }

        int number() {
            int number = 0;
            for (int i = start; i < stop && i < size; i++) {
                number = number * 10 + bytes[i] - '0';
            }
            return number;
        }

        /** Where the letter in hand stands in a row of names; -1: it does not, or it is no single letter. */
        int placeIn(String names) {
            if (hand != LETTERS || stop - start != 1 || start >= size) {
                return -1;
            }
            return names.indexOf((char) bytes[start]);
        }
    }

    /** A law that has been read: its code has each sign behind what it joins. */
    private static final class Text {
        // Numbers stand in the code as they are; names and signs stand above all numbers.
        static final int NAME = 10000, SIGN = 20000;

        final int key;
        final int leaves;
        final int[] code;

        Text(int key, int leaves, int[] code) {
            this.key = key;
            this.leaves = leaves;
            this.code = code;
        }

        /** Its value; the three are its key's names, in their order. */
        int workOut(int[] stack, int first, int second, int third) {
            int top = 0;
            for (int i = 0; i < code.length; i++) {
                int c = code[i];
                if (c < SIGN) {
                    if (top < stack.length) {
                        stack[top] = c < NAME ? c : c == NAME ? first : c == NAME + 1 ? second : third;
                        top++;
                    }
                } else if (c == SIGN + '!') {
                    if (within(top, 1, stack.length)) {
                        stack[top - 1] = stack[top - 1] == 0 ? 1 : 0;
                    }
                } else if (within(top, 2, stack.length)) {
                    top--;
                    stack[top - 1] = joined(c - SIGN, stack[top - 1], stack[top]);
                }
            }
            return within(top, 1, stack.length) ? stack[top - 1] : 0;
        }

        private static int joined(int sign, int left, int right) {
            switch (sign) {
                case '+':
                    return left + right;
                case '-':
                    return left - right;
                case '*':
                    return left * right;
                case '/':
                    return right == 0 ? 0 : left / right;
                case '<':
                    return left < right ? 1 : 0;
                case '=':
                    return left == right ? 1 : 0;
                case '>':
                    return left > right ? 1 : 0;
                case '&':
                    return left != 0 && right != 0 ? 1 : 0;
                default:
                    return left != 0 || right != 0 ? 1 : 0;
            }
        }
    }

    /** Makes a text of its tape; the first fault ends it. */
    private static final class Parser {
        static final int LOOSEST = 0, TESTS = 2, TIGHTEST = 4;
        static final int DEEPEST = 8;

        final Tape tape = new Tape();
        private final int[] code = new int[TAPE];
        private int size = 0;
        private int leaves = 0;
        private int key = OWE;
        private int fault = NONE;

        /** The place of the tape's fault, or NONE; then made() gives its text. */
        int findFault() {
            size = 0;
            leaves = 0;
            fault = NONE;
            tape.rewind();
            key = keyInHand();
            if (key == NONE) {
                refuse();
                return fault;
            }
            tape.advance();
            readLevel(LOOSEST, 0, 0);
            if (tape.hand != Tape.END) {
                refuse();
            }
            return fault;
        }

        Text made() {
            return new Text(key, leaves, Arrays.copyOf(code, size));
        }

        /** A tape that has run out ends all loops; of several faults the first stays. */
        private void refuse() {
            if (fault == NONE) {
                fault = tape.start;
            }
            tape.runOut();
        }

        private int keyInHand() {
            if (tape.isWord("owe")) {
                return OWE;
            }
            if (tape.isWord("shame")) {
                return SHAMES;
            }
            return tape.isWord("forget") ? FORGET : NONE;
        }

        /** The key's names, in the order in which Text.workOut() takes them. */
        private String names() {
            return key == OWE ? "dab" : key == SHAMES ? "os" : "df";
        }

        private void readLevel(int level, int brackets, int nots) {
            if (level > TIGHTEST) {
                readPiece(brackets, nots);
                return;
            }
            readLevel(level + 1, brackets, nots);
            int most = level == TESTS ? 1 : TAPE;
            for (int i = 0; i < most && levelOf(tape.hand) == level; i++) {
                int sign = tape.hand;
                tape.advance();
                readLevel(level + 1, brackets, nots);
                add(Text.SIGN + sign);
            }
        }

        private static int levelOf(int sign) {
            switch (sign) {
                case '|':
                    return LOOSEST;
                case '&':
                    return LOOSEST + 1;
                case '<':
                case '=':
                case '>':
                    return TESTS;
                case '+':
                case '-':
                    return TESTS + 1;
                case '*':
                case '/':
                    return TIGHTEST;
                default:
                    return NONE;
            }
        }

        private void readPiece(int brackets, int nots) {
            int name = tape.placeIn(names());
            if (tape.hand == Tape.DIGITS) {
                addLeaf(tape.number());
                tape.advance();
            } else if (name >= 0) {
                addLeaf(Text.NAME + name);
                tape.advance();
            } else if (tape.hand == '!' && nots < DEEPEST) {
                tape.advance();
                readPiece(brackets, nots + 1);
                add(Text.SIGN + '!');
            } else if (tape.hand == '(' && brackets < DEEPEST) {
                tape.advance();
                readLevel(LOOSEST, brackets + 1, nots);
                if (tape.hand == ')') {
                    tape.advance();
                } else {
                    refuse();
                }
            } else {
                refuse();
            }
        }

        private void addLeaf(int c) {
            add(c);
            leaves++;
        }

        private void add(int c) {
            if (size < code.length) {
                code[size] = c;
                size++;
            }
        }
    }

    private static final class Sheet {
        int sort = MISSING;
        int size = 0;
        // NO NUMBER is held as NONE, which no place can be told as a number.
        final int[] places = new int[PLACES];

        void renew(int newSort, int n) {
            sort = newSort;
            size = n;
            Arrays.fill(places, 0);
        }

        void become(Sheet other) {
            sort = other.sort;
            size = other.size;
            System.arraycopy(other.places, 0, places, 0, PLACES);
        }

        boolean has(int place) {
            return within(place, 0, size - 1) && place < PLACES;
        }

        boolean hasNumber(int place) {
            return has(place) && places[place] != NONE;
        }

        boolean hasRow(int place, int many) {
            return within(place, 0, size) && within(many, 0, size - place);
        }
    }

    private static final class Slot {
        int thing = HOLDS_NOTHING;
        final Rule rule = new Rule();
        final Sheet sheet = new Sheet();
        int number = 0;

        /** Why it can't be taken for a thing; NONE: it can. */
        int refusalUnless(int wanted) {
            if (thing == HOLDS_NOTHING) {
                return NOTHING;
            }
            return thing == wanted ? NONE : KIND;
        }
    }
}
