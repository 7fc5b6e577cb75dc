/** A desk of facts and rules with nots, whose answer is kept and explained. */
public final class Derivationdesk {
    private static final int NONE = -1;
    private static final int CONSTANTS = 5;
    private static final int CELLS = 25;
    private static final int VARIABLES = 4;
    private static final int MOST_RELATIONS = 8;
    private static final int MOST_PARTS = 4;
    private static final int MOST_RULES = 12;
    private static final int ALL_RULES = (1 << MOST_RULES) - 1;
    private static final int SIDES_OF_BOTH = 3;
    private static final int WISHED_ROWS = 2;
    private static final int KEPT_TIMES = 30;
    /** A compare is a relation of its own behind the others, whose rows are always there. */
    private static final int KINDS = 4;
    private static final int TABLES = MOST_RELATIONS + KINDS;
    /** A frozen rule's variables are values 0 to 3, and the constants stand behind them. */
    private static final int FROZEN_VALUES = VARIABLES + CONSTANTS;
    /** Slots of terms: 0 to 3 the variables, 4 to 8 the constants, 9 the place that is not there. */
    private static final int NO_PLACE = VARIABLES + CONSTANTS;
    private static final int SLOTS = NO_PLACE + 1;
    private static final int CODES = CONSTANTS * CONSTANTS * CONSTANTS * CONSTANTS;
    /** Bounds far above what any run can need. */
    private static final int MOST_ROUNDS = 1000;
    private static final int MOST_MATCHES = 10000;
    private static final int MOST_STEPS = 100000;

    private final Book book;
    private final Rows facts;
    private final Rows answer;
    private final Rows otherAnswer;
    private final Rows before;
    private final Rows trialFacts;
    private final Rows trial;
    private final Rows otherTrial;
    private final Walk walk;
    private final Maker maker;
    private final Grounds grounds;
    private final Asker asker;
    private final Frost frost;
    private final History history;
    private final Scribe scribe;
    private int time;
    private int clung;
    private int refused;

    public Derivationdesk() {
        // The parts are tied together before the desk has them, so that nothing of it is handed out half made.
        Book pages = new Book();
        Rows told = new Rows(CONSTANTS);
        Rows kept = new Rows(CONSTANTS);
        Walk shared = new Walk(CONSTANTS, pages.blank, kept);
        book = pages;
        facts = told;
        answer = kept;
        walk = shared;
        otherAnswer = new Rows(CONSTANTS);
        before = new Rows(CONSTANTS);
        trialFacts = new Rows(CONSTANTS);
        trial = new Rows(CONSTANTS);
        otherTrial = new Rows(CONSTANTS);
        maker = new Maker(pages, shared);
        grounds = new Grounds(pages, shared, told, kept);
        asker = new Asker(pages, shared, kept);
        frost = new Frost(pages, new Rows(FROZEN_VALUES));
        history = new History();
        scribe = new Scribe(pages);
    }

    public int relation(int places) throws IllegalArgumentException, IllegalStateException {
        if (places != 1 && places != 2) {
            throw new IllegalArgumentException("a relation has 1 or 2 places");
        }
        if (book.relations >= MOST_RELATIONS) {
            throw new IllegalStateException("there are 8 relations");
        }
        return book.addRelation(places);
    }

    public int tell(int relation, int first, int second) throws IndexOutOfBoundsException, IllegalArgumentException, IllegalStateException {
        checkRow(relation, first, second);
        if (facts.has(relation, first, inner(second))) {
            throw new IllegalStateException("it is told");
        }
        int had = answer.all;
        facts.put(relation, first, inner(second));
        goOn();
        return answer.all - had;
    }

    public int untell(int relation, int first, int second) throws IndexOutOfBoundsException, IllegalArgumentException, IllegalStateException {
        checkRow(relation, first, second);
        if (!facts.has(relation, first, inner(second))) {
            throw new IllegalStateException("it is not told");
        }
        before.copy(answer);
        facts.drop(relation, first, inner(second));
        goOn();
        clung = maker.clinging(before, answer, facts);
        return before.all - answer.all;
    }

    public int draft(int relation, int x, int y) throws IndexOutOfBoundsException, IllegalArgumentException {
        checkTerms(relation, x, y);
        book.draft.begin(relation, slotOf(x), slotOf(y));
        book.isDrafting = true;
        return book.placesOf(relation);
    }

    public int with(int relation, int x, int y) throws IndexOutOfBoundsException, IllegalArgumentException, IllegalStateException {
        checkTerms(relation, x, y);
        checkDraft();
        book.draft.addWith(relation, slotOf(x), slotOf(y));
        return book.draft.parts;
    }

    public int without(int relation, int x, int y) throws IndexOutOfBoundsException, IllegalArgumentException, IllegalStateException {
        checkTerms(relation, x, y);
        checkDraft();
        book.draft.addLast(relation, slotOf(x), slotOf(y), true);
        return book.draft.parts;
    }

    public int compare(int kind, int x, int y) throws IllegalArgumentException, IllegalStateException {
        if (kind < 0 || kind >= KINDS || !isTerm(x) || !isTerm(y)) {
            throw new IllegalArgumentException("no such kind or term");
        }
        checkDraft();
        book.draft.addLast(MOST_RELATIONS + kind, slotOf(x), slotOf(y), false);
        return book.draft.parts;
    }

    public int lay(int sides) throws IllegalArgumentException, IllegalStateException {
        checkSides(sides);
        if (book.isDrafting && (book.draft.parts == 0 || !book.draft.isSafe())) {
            throw new IllegalArgumentException("the draft has no part, or is not safe");
        }
        if (!book.isDrafting || book.laid >= MOST_RULES || !book.layDraft(sides)) {
            throw new IllegalStateException("no draft, no room, or a ring");
        }
        goOn();
        return book.laid - 1;
    }

    public int group(int head, int of, int kind, int sides) throws IndexOutOfBoundsException, IllegalArgumentException, IllegalStateException {
        checkRelation(head);
        checkRelation(of);
        if (kind < 0 || kind > 2) {
            throw new IllegalArgumentException("no such kind");
        }
        checkSides(sides);
        checkTwoPlaces(head);
        checkTwoPlaces(of);
        if (book.laid >= MOST_RULES) {
            throw new IllegalStateException("there are 12 rules");
        }
        book.ruleAt(book.laid).becomeGroup(head, of, kind, sides);
        return goOnWith(1);
    }

    public int closure(int head, int of) throws IndexOutOfBoundsException, IllegalArgumentException, IllegalStateException {
        checkPair(head, of);
        Rule one = book.ruleAt(book.laid);
        one.begin(head, 0, 1);
        one.addWith(of, 0, 1);
        one.sideSet = SIDES_OF_BOTH;
        Rule more = book.ruleAt(book.laid + 1);
        more.begin(head, 0, 2);
        more.addWith(head, 0, 1);
        more.addWith(of, 1, 2);
        more.sideSet = SIDES_OF_BOTH;
        return goOnWith(2);
    }

    public int generation(int head, int of) throws IndexOutOfBoundsException, IllegalArgumentException, IllegalStateException {
        checkPair(head, of);
        Rule one = book.ruleAt(book.laid);
        one.begin(head, 0, 1);
        one.addWith(of, 2, 0);
        one.addWith(of, 2, 1);
        one.sideSet = SIDES_OF_BOTH;
        Rule more = book.ruleAt(book.laid + 1);
        more.begin(head, 0, 1);
        more.addWith(of, 2, 0);
        more.addWith(head, 2, 3);
        more.addWith(of, 3, 1);
        more.sideSet = SIDES_OF_BOTH;
        return goOnWith(2);
    }

    public int sides(int rule, int set) throws IndexOutOfBoundsException, IllegalArgumentException {
        checkRule(rule);
        checkSides(set);
        int had = book.ruleAt(rule).sideSet;
        book.ruleAt(rule).sideSet = set;
        goOn();
        return had;
    }

    public int scrap(int rule) throws IndexOutOfBoundsException {
        checkRule(rule);
        book.takeOut(rule);
        goOn();
        return book.laid;
    }

    public int knock() {
        refused++;
        return refused;
    }

    public boolean holds(int relation, int first, int second) throws IndexOutOfBoundsException, IllegalArgumentException {
        checkRow(relation, first, second);
        return answer.has(relation, first, inner(second));
    }

    public String rows(int relation, int side) throws IndexOutOfBoundsException, IllegalArgumentException {
        checkRelation(relation);
        if (side != 0 && side != 1) {
            throw new IllegalArgumentException("no such side");
        }
        scribe.begin();
        scribe.tellFitting(side == 0 ? answer : otherAnswer, relation, NONE, NONE);
        return scribe.told();
    }

    public int ofRelation(int relation, int what) throws IndexOutOfBoundsException, IllegalArgumentException {
        checkRelation(relation);
        if (what < 0 || what > 4) {
            throw new IllegalArgumentException("no such question");
        }
        return numberOf(relation, what);
    }

    public String rule(int rule) throws IndexOutOfBoundsException {
        checkRule(rule);
        scribe.begin();
        scribe.tellRule(book.ruleAt(rule));
        return scribe.told();
    }

    public int count(int what) throws IllegalArgumentException {
        if (what < 0 || what > 9) {
            throw new IllegalArgumentException("no such question");
        }
        return numberOfAll(what);
    }

    public int work(int way, int what) throws IllegalArgumentException {
        if (way != 0 && way != 1 || what != 0 && what != 1) {
            throw new IllegalArgumentException("no such way or question");
        }
        return workOf(way, what);
    }

    public String question(int relation, int first, int second) throws IndexOutOfBoundsException, IllegalArgumentException {
        checkPattern(relation, first, second);
        scribe.begin();
        scribe.tellFitting(answer, relation, first, second);
        return scribe.told();
    }

    public int demands(int relation, int first, int second, int what) throws IndexOutOfBoundsException, IllegalArgumentException {
        checkPattern(relation, first, second);
        if (what != 0 && what != 1) {
            throw new IllegalArgumentException("no such question");
        }
        asker.gather(relation, first, second);
        if (what == 0) {
            return asker.asked;
        }
        asker.gatherFitting();
        return asker.fittingAnswers();
    }

    public int height(int relation, int first, int second) throws IndexOutOfBoundsException, IllegalArgumentException {
        checkRow(relation, first, second);
        grounds.ready();
        return grounds.tallOf(relation, first, inner(second));
    }

    public int reasons(int relation, int first, int second) throws IndexOutOfBoundsException, IllegalArgumentException {
        checkRow(relation, first, second);
        grounds.ready();
        return grounds.reasonsOf(relation, first, inner(second));
    }

    public String reason(int relation, int first, int second, int k) throws IndexOutOfBoundsException, IllegalArgumentException, IllegalStateException {
        checkRow(relation, first, second);
        grounds.ready();
        if (k < NONE || !answer.has(relation, first, inner(second))
                || k >= grounds.reasonsOf(relation, first, inner(second))) {
            throw new IllegalStateException("it has no such reason");
        }
        scribe.begin();
        scribe.tellReason(k == NONE ? grounds.bestOf(relation, first, inner(second))
            : grounds.reasonAt(relation, first, inner(second), k));
        return scribe.told();
    }

    public int proof(int relation, int first, int second) throws IndexOutOfBoundsException, IllegalArgumentException {
        checkRow(relation, first, second);
        grounds.ready();
        grounds.prove(relation, first, inner(second));
        return grounds.proven.all;
    }

    public String line(int relation, int first, int second, int k) throws IndexOutOfBoundsException, IllegalArgumentException, IllegalStateException {
        checkRow(relation, first, second);
        grounds.ready();
        grounds.prove(relation, first, inner(second));
        if (k < 0 || k >= grounds.proven.all) {
            throw new IllegalStateException("its proof has no such row");
        }
        int cell = grounds.provenAt(k);
        scribe.begin();
        scribe.tellRow(cell / CELLS, cell % CELLS / CONSTANTS, cell % CONSTANTS);
        scribe.put(' ');
        scribe.tellReason(grounds.bestOf(cell / CELLS, cell % CELLS / CONSTANTS, cell % CONSTANTS));
        return scribe.told();
    }

    public String whyNot(int rule, int first, int second) throws IndexOutOfBoundsException, IllegalArgumentException, IllegalStateException {
        checkRule(rule);
        Rule asked = book.ruleAt(rule);
        checkConstants(asked.head, first, second);
        checkNoGroup(asked);
        walk.aim(asked, answer);
        if (!walk.fix(first, inner(second))) {
            return "head";
        }
        int part = walk.farthest();
        if (part >= asked.parts) {
            return "so";
        }
        scribe.begin();
        scribe.putNumber(part);
        scribe.tellValues(asked, walk.code());
        return scribe.told();
    }

    public int visits(int rule, boolean isPlanned) throws IndexOutOfBoundsException, IllegalStateException {
        checkRule(rule);
        Rule asked = book.ruleAt(rule);
        checkNoGroup(asked);
        walk.aim(asked, answer);
        if (isPlanned) {
            walk.arrange();
        }
        int sum = 0;
        for (int k = 1; k <= asked.withs; k++) {
            walk.open(k, walk.variablesOf(k));
            sum += walk.remaining();
        }
        return sum;
    }

    public String plan(int rule) throws IndexOutOfBoundsException, IllegalStateException {
        checkRule(rule);
        Rule asked = book.ruleAt(rule);
        checkNoGroup(asked);
        walk.aim(asked, answer);
        walk.arrange();
        scribe.begin();
        for (int i = 0; i < asked.withs; i++) {
            scribe.putNumber(walk.partAt(i));
        }
        return scribe.told();
    }

    public int matches(int rule) throws IndexOutOfBoundsException {
        checkRule(rule);
        return matchesOf(rule);
    }

    public int nearest(int relation, int from, int to) throws IndexOutOfBoundsException, IllegalArgumentException {
        checkRelation(relation);
        checkTwoPlaces(relation);
        if (!isConstant(from) || !isConstant(to)) {
            throw new IllegalArgumentException("no such constant");
        }
        int reached = 1 << from;
        for (int steps = 0; steps < CONSTANTS; steps++) {
            if ((reached >> to & 1) != 0) {
                return steps;
            }
            reached |= answer.after(relation, reached);
        }
        return NONE;
    }

    public boolean contained(int rule, int other) throws IndexOutOfBoundsException, IllegalStateException {
        checkPlain(rule, other);
        return frost.finds(book.ruleAt(rule), book.ruleAt(other));
    }

    public String witness(int rule, int other) throws IndexOutOfBoundsException, IllegalStateException {
        checkPlain(rule, other);
        Rule wide = book.ruleAt(other);
        if (!frost.finds(book.ruleAt(rule), wide)) {
            return "none";
        }
        scribe.begin();
        for (int v = 0; v < VARIABLES; v++) {
            if ((wide.variables >> v & 1) != 0) {
                scribe.divide();
                int slot = frost.slotFor(v);
                scribe.putNumber(slot < VARIABLES ? slot : slot + 10 - VARIABLES);
            }
        }
        return scribe.told();
    }

    public boolean needless(int rule) throws IndexOutOfBoundsException {
        checkRule(rule);
        return frost.isNeedless(rule);
    }

    public String wish(int wished, int relation, int first, int second) throws IndexOutOfBoundsException, IllegalArgumentException {
        checkRelation(wished);
        checkRow(relation, first, second);
        if (answer.has(relation, first, inner(second))) {
            return "";
        }
        int goal = (relation * CONSTANTS + first) * CONSTANTS + inner(second);
        int found = book.isReaching(relation, wished) ? wishedRows(wished, goal, book.rulesFor(relation)) : NONE;
        if (found == NONE) {
            return "none";
        }
        scribe.begin();
        for (int cell = 0; cell < CELLS; cell++) {
            if ((found >> cell & 1) != 0) {
                scribe.divide();
                scribe.tellRow(wished, cell / CONSTANTS, cell % CONSTANTS);
            }
        }
        return scribe.told();
    }

    public int differ(int given, int relation, int size) throws IndexOutOfBoundsException, IllegalArgumentException {
        checkRelation(given);
        checkRelation(relation);
        if (size < 1 || size > 3) {
            throw new IllegalArgumentException("a size is 1 to 3");
        }
        int rules = book.rulesFor(relation);
        if (book.isOfBoth(rules)) {
            return NONE;
        }
        int most = book.placesOf(given) == 1 ? size : size * size;
        if (!book.isReaching(relation, given)) {
            most = 0;
        }
        for (int many = 0; many <= most; many++) {
            for (int set = 0; set < 1 << most; set++) {
                if (Integer.bitCount(set) == many && isTellingApart(given, relation, size, set, rules)) {
                    return set;
                }
            }
        }
        return NONE;
    }

    public int would(int relation, int first, int second, boolean isTold) throws IndexOutOfBoundsException, IllegalArgumentException {
        checkRow(relation, first, second);
        trialFacts.copy(facts);
        if (isTold) {
            trialFacts.put(relation, first, inner(second));
        } else {
            trialFacts.drop(relation, first, inner(second));
        }
        maker.make(trial, trialFacts, 0, 1, ALL_RULES, null);
        return trial.all - answer.all;
    }

    public boolean held(int time, int relation, int first, int second) throws IndexOutOfBoundsException, IllegalArgumentException {
        checkRelation(relation);
        if (time < 0 || time > this.time || this.time - time >= KEPT_TIMES) {
            throw new IndexOutOfBoundsException("that time is not kept");
        }
        checkConstants(relation, first, second);
        return history.had(time, relation, first * CONSTANTS + inner(second));
    }

    public int since(int relation, int first, int second) throws IndexOutOfBoundsException, IllegalArgumentException {
        checkRow(relation, first, second);
        int earliest = NONE;
        int oldest = Math.max(0, time - KEPT_TIMES + 1);
        for (int t = time; t >= oldest; t--) {
            if (!history.had(t, relation, first * CONSTANTS + inner(second))) {
                break;
            }
            earliest = t;
        }
        return earliest;
    }

    public boolean isSound() {
        return isAllSound();
    }

    public long digest() {
        long d = 6104;
        for (int what = 0; what <= 9; what++) {
            d = d * 31 + numberOfAll(what);
        }
        grounds.ready();
        for (int relation = 0; relation < book.relations; relation++) {
            d = digestOfRelation(d, relation);
        }
        for (int rule = 0; rule < book.laid; rule++) {
            scribe.begin();
            scribe.tellRule(book.ruleAt(rule));
            d = d * 31 + scribe.length();
            d = d * 31 + matchesOf(rule);
        }
        for (int i = 0; i < 4; i++) {
            d = d * 31 + workOf(i / 2, i % 2);
        }
        return d * 31 + (isAllSound() ? 1 : 0);
    }

    private static boolean isConstant(int value) {
        return value >= 0 && value < CONSTANTS;
    }

    private static boolean isTerm(int term) {
        return term >= 0 && term < VARIABLES || term >= 10 && term < 10 + CONSTANTS;
    }

    private static int slotOf(int term) {
        if (term == NONE) {
            return NO_PLACE;
        }
        return term < VARIABLES ? term : term - 10 + VARIABLES;
    }

    /** A row of one place is kept with 0 as its second constant. */
    private static int inner(int second) {
        return Math.max(second, 0);
    }

    private void checkRelation(int relation) {
        if (relation < 0 || relation >= book.relations) {
            throw new IndexOutOfBoundsException("no such relation");
        }
    }

    private void checkTwoPlaces(int relation) {
        if (book.placesOf(relation) != 2) {
            throw new IllegalArgumentException("it has one place");
        }
    }

    private void checkConstants(int relation, int first, int second) {
        boolean isSecond = book.placesOf(relation) == 1 ? second == NONE : isConstant(second);
        if (!isConstant(first) || !isSecond) {
            throw new IllegalArgumentException("no such constants");
        }
    }

    private void checkRow(int relation, int first, int second) {
        checkRelation(relation);
        checkConstants(relation, first, second);
    }

    private void checkPattern(int relation, int first, int second) {
        checkRelation(relation);
        boolean isOpen = second == NONE || book.placesOf(relation) == 2 && isConstant(second);
        if (first != NONE && !isConstant(first) || !isOpen) {
            throw new IllegalArgumentException("no such pattern");
        }
    }

    private void checkTerms(int relation, int x, int y) {
        checkRelation(relation);
        boolean isSecond = book.placesOf(relation) == 1 ? y == NONE : isTerm(y);
        if (!isTerm(x) || !isSecond) {
            throw new IllegalArgumentException("no such terms");
        }
    }

    private void checkDraft() {
        if (!book.isDrafting || book.draft.parts >= MOST_PARTS) {
            throw new IllegalStateException("no draft, or it has 4 parts");
        }
    }

    private void checkSides(int set) {
        if (set < 1 || set > SIDES_OF_BOTH) {
            throw new IllegalArgumentException("sides are 1 to 3");
        }
    }

    private void checkRule(int rule) {
        if (rule < 0 || rule >= book.laid) {
            throw new IndexOutOfBoundsException("no such rule");
        }
    }

    private void checkNoGroup(Rule rule) {
        if (rule.isGroup()) {
            throw new IllegalStateException("it is a group");
        }
    }

    private void checkPlain(int rule, int other) {
        checkRule(rule);
        checkRule(other);
        if (!book.ruleAt(rule).isPlain() || !book.ruleAt(other).isPlain()) {
            throw new IllegalStateException("one of them is not plain");
        }
    }

    /** What closure and generation ask before they write two rules behind those that are laid. */
    private void checkPair(int head, int of) {
        checkRelation(head);
        checkRelation(of);
        if (head == of) {
            throw new IllegalArgumentException("they are the same");
        }
        checkTwoPlaces(head);
        checkTwoPlaces(of);
        if (book.laid + 2 > MOST_RULES) {
            throw new IllegalStateException("there would be more than 12 rules");
        }
    }

    /** Lays what has been written behind the laid rules, unless there is a ring with it. */
    private int goOnWith(int more) {
        int first = book.laid;
        if (!book.settle(first + more)) {
            throw new IllegalStateException("there would be a ring");
        }
        goOn();
        return first;
    }

    private void goOn() {
        maker.make(answer, facts, 0, 1, ALL_RULES, null);
        maker.make(otherAnswer, facts, 1, 1, ALL_RULES, null);
        grounds.isReady = false;
        time++;
        history.keep(time, answer);
    }

    private int numberOf(int relation, int what) {
        switch (what) {
            case 0: return book.placesOf(relation);
            case 1: return facts.manyOf(relation);
            case 2: return answer.manyOf(relation);
            case 3: return otherAnswer.manyOf(relation);
            default: return book.layerOf(relation);
        }
    }

    private int numberOfAll(int what) {
        switch (what) {
            case 0: return book.relations;
            case 1: return facts.all;
            case 2: return answer.all;
            case 3: return book.laid;
            case 4: return book.layers();
            case 5: return time;
            case 6: return clung;
            case 7: return book.isDrafting ? book.draft.parts : NONE;
            case 8: return otherAnswer.all;
            default: return refused;
        }
    }

    private int workOf(int way, int what) {
        maker.make(trial, facts, 0, way, ALL_RULES, null);
        return what == 0 ? maker.rounds : maker.firings;
    }

    private int matchesOf(int rule) {
        Rule asked = book.ruleAt(rule);
        walk.aim(asked, answer);
        walk.open(asked.parts, asked.variables);
        return walk.remaining();
    }

    private long digestOfRelation(long start, int relation) {
        long d = start;
        for (int what = 0; what <= 4; what++) {
            d = d * 31 + numberOf(relation, what);
        }
        for (int cell = 0; cell < CELLS; cell++) {
            if (answer.has(relation, cell / CONSTANTS, cell % CONSTANTS)) {
                d = d * 31 + cell;
                d = d * 31 + grounds.tallOf(relation, cell / CONSTANTS, cell % CONSTANTS);
                d = d * 31 + grounds.reasonsOf(relation, cell / CONSTANTS, cell % CONSTANTS);
            }
        }
        return d;
    }

    /** The fewest rows with which the goal is there, as a set of cells; NONE, if 2 are not enough. */
    private int wishedRows(int wished, int goal, int rules) {
        int free = freeCells(wished);
        for (int many = 1; many <= WISHED_ROWS; many++) {
            for (int low = 0; low < CELLS; low++) {
                for (int high = many == 1 ? low : low + 1; high < (many == 1 ? low + 1 : CELLS); high++) {
                    int set = 1 << low | 1 << high;
                    if ((set & free) == set && isReached(wished, set, goal, rules)) {
                        return set;
                    }
                }
            }
        }
        return NONE;
    }

    private int freeCells(int relation) {
        int every = book.placesOf(relation) == 2 ? (1 << CELLS) - 1 : 1 << 0 | 1 << 5 | 1 << 10 | 1 << 15 | 1 << 20;
        return every & ~facts.cellsOf(relation);
    }

    private boolean isReached(int wished, int set, int goal, int rules) {
        trialFacts.copy(facts);
        for (int cell = 0; cell < CELLS; cell++) {
            if ((set >> cell & 1) != 0) {
                trialFacts.put(wished, cell / CONSTANTS, cell % CONSTANTS);
            }
        }
        maker.make(trial, trialFacts, 0, 1, rules, null);
        return trial.has(goal / CELLS, goal % CELLS / CONSTANTS, goal % CONSTANTS);
    }

    private boolean isTellingApart(int given, int relation, int size, int set, int rules) {
        boolean isSingle = book.placesOf(given) == 1;
        trialFacts.clear();
        for (int k = 0; k < CELLS; k++) {
            if ((set >> k & 1) != 0 && size > 0) {
                trialFacts.put(given, isSingle ? k : k / size, isSingle ? 0 : k % size);
            }
        }
        maker.make(trial, trialFacts, 0, 1, rules, null);
        maker.make(otherTrial, trialFacts, 1, 1, rules, null);
        return !trial.isSameOf(relation, otherTrial);
    }

    private boolean isAllSound() {
        grounds.ready();
        return isRemade() && isAskedBack() && grounds.isClosed && grounds.isFull() && grounds.isFalling() && isSpared();
    }

    private boolean isRemade() {
        maker.make(trial, facts, 0, 0, ALL_RULES, null);
        boolean isSame = trial.isSame(answer);
        maker.make(trial, facts, 0, 1, ALL_RULES, null);
        int fired = maker.firings;
        int all = 0;
        for (int rule = 0; rule < book.laid; rule++) {
            if (book.ruleAt(rule).isOf(0)) {
                all += matchesOf(rule);
            }
        }
        return isSame && trial.isSame(answer) && fired == all;
    }

    private boolean isAskedBack() {
        boolean isFound = true;
        for (int relation = 0; relation < book.relations; relation++) {
            asker.gather(relation, NONE, NONE);
            asker.gatherFitting();
            maker.make(trial, facts, 0, 1, ALL_RULES, asker.fitting);
            isFound &= trial.isSameOf(relation, answer);
        }
        return isFound;
    }

    private boolean isSpared() {
        boolean isSame = true;
        for (int rule = 0; rule < book.laid; rule++) {
            if (book.ruleAt(rule).isOf(0) && frost.isNeedless(rule)) {
                maker.make(trial, facts, 0, 1, ALL_RULES & ~(1 << rule), null);
                isSame &= trial.isSame(answer);
            }
        }
        return isSame;
    }

    /** Rows of all relations as sets of values, by their first and by their second one. */
    private static final class Rows {
        final int width;
        final int[] seconds;
        final int[] firsts;
        final int[] many = new int[TABLES];
        int all;

        Rows(int width) {
            this.width = width;
            seconds = new int[TABLES * width];
            firsts = new int[TABLES * width];
            for (int i = 0; i < KINDS * CELLS; i++) {
                int first = i / CONSTANTS % CONSTANTS;
                int second = i % CONSTANTS;
                if (isSo(i / CELLS, first, second)) {
                    seconds[(MOST_RELATIONS + i / CELLS) * width + first] |= 1 << second;
                    firsts[(MOST_RELATIONS + i / CELLS) * width + second] |= 1 << first;
                }
            }
        }

        static boolean isSo(int kind, int first, int second) {
            switch (kind) {
                case 0: return first == second;
                case 1: return first != second;
                case 2: return first < second;
                default: return first + 1 == second;
            }
        }

        boolean isInside(int relation, int first, int second) {
            return relation >= 0 && relation < TABLES
                && first >= 0 && first < width && second >= 0 && second < width;
        }

        boolean has(int relation, int first, int second) {
            return relation >= 0 && relation < TABLES && first >= 0 && first < width
                && second >= 0 && second < width && (seconds[relation * width + first] >> second & 1) != 0;
        }

        void put(int relation, int first, int second) {
            if (isInside(relation, first, second) && (seconds[relation * width + first] >> second & 1) == 0) {
                seconds[relation * width + first] |= 1 << second;
                firsts[relation * width + second] |= 1 << first;
                many[relation]++;
                all++;
            }
        }

        void drop(int relation, int first, int second) {
            if (isInside(relation, first, second) && (seconds[relation * width + first] >> second & 1) != 0) {
                seconds[relation * width + first] &= ~(1 << second);
                firsts[relation * width + second] &= ~(1 << first);
                many[relation]--;
                all--;
            }
        }

        void clear() {
            for (int relation = 0; all > 0 && relation < MOST_RELATIONS; relation++) {
                for (int value = 0; many[relation] > 0 && value < width; value++) {
                    seconds[relation * width + value] = 0;
                    firsts[relation * width + value] = 0;
                }
                many[relation] = 0;
            }
            all = 0;
        }

        void copy(Rows other) {
            System.arraycopy(other.seconds, 0, seconds, 0, Math.min(other.seconds.length, seconds.length));
            System.arraycopy(other.firsts, 0, firsts, 0, Math.min(other.firsts.length, firsts.length));
            System.arraycopy(other.many, 0, many, 0, Math.min(other.many.length, many.length));
            all = other.all;
        }

        /** Takes in what is made; what of it was not here before stands in fresh then. */
        boolean gain(Rows made, Rows fresh) {
            fresh.clear();
            if (made.all == 0) {
                return false;
            }
            for (int relation = 0; relation < MOST_RELATIONS; relation++) {
                for (int first = 0; made.manyOf(relation) > 0 && first < width; first++) {
                    int news = made.following(relation, first) & ~following(relation, first);
                    for (int second = 0; news != 0 && second < width; second++) {
                        if ((news >> second & 1) != 0) {
                            put(relation, first, second);
                            fresh.put(relation, first, second);
                        }
                    }
                }
            }
            return fresh.all > 0;
        }

        /** The second values of the rows with this first one. */
        int following(int relation, int first) {
            int i = relation * width + first;
            return i >= 0 && i < seconds.length ? seconds[i] : 0;
        }

        /** The first values of the rows with this second one. */
        int leading(int relation, int second) {
            int i = relation * width + second;
            return i >= 0 && i < firsts.length ? firsts[i] : 0;
        }

        /** The values that stand in both places of a row. */
        int doubled(int relation) {
            int found = 0;
            for (int value = 0; value < width; value++) {
                int i = relation * width + value;
                found |= i >= 0 && i < seconds.length ? seconds[i] & 1 << value : 0;
            }
            return found;
        }

        /** The first values that any row has. */
        int starts(int relation) {
            int found = 0;
            for (int value = 0; value < width; value++) {
                int i = relation * width + value;
                found |= i >= 0 && i < seconds.length && seconds[i] != 0 ? 1 << value : 0;
            }
            return found;
        }

        /** The second values of rows whose first one is in the set. */
        int after(int relation, int set) {
            int found = 0;
            for (int value = 0; value < width; value++) {
                found |= (set >> value & 1) != 0 ? following(relation, value) : 0;
            }
            return found;
        }

        int manyOf(int relation) {
            return relation >= 0 && relation < TABLES ? many[relation] : 0;
        }

        /** Its rows of constants as one set of 25. */
        int cellsOf(int relation) {
            int cells = 0;
            for (int first = 0; first < CONSTANTS; first++) {
                cells |= following(relation, first) << first * CONSTANTS;
            }
            return cells;
        }

        void copyOf(int relation, Rows other) {
            for (int cell = 0; cell < CELLS; cell++) {
                if (other.has(relation, cell / CONSTANTS, cell % CONSTANTS)) {
                    put(relation, cell / CONSTANTS, cell % CONSTANTS);
                } else {
                    drop(relation, cell / CONSTANTS, cell % CONSTANTS);
                }
            }
        }

        void keepOnlyOf(int relation, Rows allowed) {
            int gone = cellsOf(relation) & ~allowed.cellsOf(relation);
            for (int cell = 0; gone != 0 && cell < CELLS; cell++) {
                if ((gone >> cell & 1) != 0) {
                    drop(relation, cell / CONSTANTS, cell % CONSTANTS);
                }
            }
        }

        void keepOnly(Rows allowed) {
            for (int relation = 0; relation < MOST_RELATIONS; relation++) {
                keepOnlyOf(relation, allowed);
            }
        }

        boolean isSameOf(int relation, Rows other) {
            return cellsOf(relation) == other.cellsOf(relation);
        }

        boolean isSame(Rows other) {
            boolean isSame = true;
            for (int relation = 0; relation < MOST_RELATIONS; relation++) {
                isSame &= isSameOf(relation, other);
            }
            return isSame;
        }
    }

    /** A rule or a group, with its with parts ahead of all others; a group is walked by its variable 0. */
    private static final class Rule {
        int head;
        int headX;
        int headY;
        int parts;
        int withs;
        final int[] relation = new int[MOST_PARTS];
        final int[] x = new int[MOST_PARTS];
        final int[] y = new int[MOST_PARTS];
        final boolean[] isNot = new boolean[MOST_PARTS];
        final int[] partVariables = new int[MOST_PARTS];
        int sideSet;
        int groupKind = NONE;
        int of;
        int variables;
        int bound;

        void begin(int head, int headX, int headY) {
            this.head = head;
            this.headX = headX;
            this.headY = headY;
            parts = 0;
            withs = 0;
            sideSet = 0;
            groupKind = NONE;
            of = NONE;
            variables = variableOf(headX) | variableOf(headY);
            bound = 0;
        }

        void becomeGroup(int head, int of, int kind, int sideSet) {
            begin(head, 0, NO_PLACE);
            this.of = of;
            groupKind = kind;
            this.sideSet = sideSet;
        }

        void addWith(int relation, int x, int y) {
            if (withs >= 0 && withs <= parts && parts < MOST_PARTS) {
                for (int p = parts; p > withs; p--) {
                    setPart(p, this.relation[p - 1], this.x[p - 1], this.y[p - 1], isNot[p - 1]);
                }
                setPart(withs, relation, x, y, false);
                withs++;
                parts++;
                bound |= variableOf(x) | variableOf(y);
                variables |= bound;
            }
        }

        void addLast(int relation, int x, int y, boolean isNot) {
            if (parts < MOST_PARTS) {
                setPart(parts, relation, x, y, isNot);
                parts++;
                variables |= variableOf(x) | variableOf(y);
            }
        }

        void setPart(int p, int relation, int x, int y, boolean isNot) {
            if (p >= 0 && p < MOST_PARTS) {
                this.relation[p] = relation;
                this.x[p] = x;
                this.y[p] = y;
                this.isNot[p] = isNot;
                partVariables[p] = variableOf(x) | variableOf(y);
            }
        }

        static int variableOf(int slot) {
            return slot >= 0 && slot < VARIABLES ? 1 << slot : 0;
        }

        boolean isGroup() {
            return groupKind != NONE;
        }

        boolean isSafe() {
            return (variables & ~bound) == 0;
        }

        boolean isPlain() {
            return !isGroup() && parts == withs;
        }

        boolean isOf(int side) {
            return (sideSet >> side & 1) != 0;
        }

        int relationAt(int p) {
            return p >= 0 && p < MOST_PARTS ? relation[p] : NONE;
        }

        int xAt(int p) {
            return p >= 0 && p < MOST_PARTS ? x[p] : NO_PLACE;
        }

        int yAt(int p) {
            return p >= 0 && p < MOST_PARTS ? y[p] : NO_PLACE;
        }

        boolean isNotAt(int p) {
            return p >= 0 && p < MOST_PARTS && isNot[p];
        }

        boolean isCompareAt(int p) {
            return relationAt(p) >= MOST_RELATIONS;
        }

        int variablesAt(int p) {
            return p >= 0 && p < MOST_PARTS ? partVariables[p] : 0;
        }

        /** Whether a with part looks at a relation that has rows here. */
        boolean reads(Rows fresh) {
            boolean isRead = false;
            for (int p = 0; p < withs; p++) {
                isRead |= fresh.manyOf(relationAt(p)) > 0;
            }
            return isRead;
        }
    }

    /** The relations with their layers, the laid rules and the draft. */
    private static final class Book {
        final int[] places = new int[MOST_RELATIONS];
        final int[] layer = new int[MOST_RELATIONS];
        final int[] settled = new int[MOST_RELATIONS];
        final Rule[] rules = new Rule[MOST_RULES];
        final Rule blank = new Rule();
        Rule draft = new Rule();
        boolean isDrafting;
        int relations;
        int laid;

        Book() {
            for (int i = 0; i < MOST_RULES; i++) {
                rules[i] = new Rule();
            }
        }

        int addRelation(int placesOfIt) {
            if (relations >= 0 && relations < MOST_RELATIONS) {
                places[relations] = placesOfIt;
                relations++;
            }
            return relations - 1;
        }

        int placesOf(int relation) {
            return relation >= 0 && relation < MOST_RELATIONS ? places[relation] : 2;
        }

        int layerOf(int relation) {
            return relation >= 0 && relation < MOST_RELATIONS ? layer[relation] : NONE;
        }

        int layers() {
            int most = 0;
            for (int relation = 0; relation < relations; relation++) {
                most = Math.max(most, layerOf(relation) + 1);
            }
            return most;
        }

        Rule ruleAt(int number) {
            return number >= 0 && number < MOST_RULES ? rules[number] : blank;
        }

        /** The draft changes places with the unused rule behind the laid ones; back, if there is a ring. */
        boolean layDraft(int sideSet) {
            exchangeDraft();
            if (!settle(laid + 1)) {
                exchangeDraft();
                return false;
            }
            ruleAt(laid - 1).sideSet = sideSet;
            isDrafting = false;
            return true;
        }

        void exchangeDraft() {
            if (laid >= 0 && laid < MOST_RULES) {
                Rule unused = rules[laid];
                rules[laid] = draft;
                draft = unused;
            }
        }

        void takeOut(int number) {
            if (number >= 0 && number < laid && laid <= MOST_RULES) {
                Rule gone = rules[number];
                for (int i = number; i + 1 < laid; i++) {
                    rules[i] = rules[i + 1];
                }
                rules[laid - 1] = gone;
                settle(laid - 1);
            }
        }

        /** Finds the layers with so many rules; they count from then on, unless there is a ring. */
        boolean settle(int many) {
            for (int i = 0; i < MOST_RELATIONS; i++) {
                settled[i] = 0;
            }
            boolean isRising = true;
            for (int pass = 0; isRising && pass <= MOST_RELATIONS * MOST_RELATIONS; pass++) {
                isRising = false;
                for (int i = 0; i < many; i++) {
                    isRising |= lift(ruleAt(i));
                }
            }
            if (isRising || many > MOST_RULES) {
                return false;
            }
            System.arraycopy(settled, 0, layer, 0, Math.min(settled.length, layer.length));
            laid = many;
            return true;
        }

        /** Lifts the head as high as the rule wants; above the number of relations there is a ring. */
        boolean lift(Rule rule) {
            int least = rule.isGroup() ? settledOf(rule.of) + 1 : 0;
            for (int p = 0; p < rule.parts; p++) {
                int stands = settledOf(rule.relationAt(p));
                least = Math.max(least, rule.isNotAt(p) ? stands + 1 : stands);
            }
            if (rule.head < 0 || rule.head >= MOST_RELATIONS || settled[rule.head] >= least) {
                return false;
            }
            settled[rule.head] = least;
            return true;
        }

        int settledOf(int relation) {
            return relation >= 0 && relation < MOST_RELATIONS ? settled[relation] : 0;
        }

        /** Whether rows of one relation can depend on those of another one. */
        boolean isReaching(int from, int to) {
            return (reachedFrom(from) >> to & 1) != 0;
        }

        /** The rules, of any sides, on which the rows of a relation can depend. */
        int rulesFor(int relation) {
            int reached = reachedFrom(relation);
            int set = 0;
            for (int i = 0; i < laid; i++) {
                set |= (reached >> ruleAt(i).head & 1) << i;
            }
            return set;
        }

        /** Whether all rules of the set count for both sides. */
        boolean isOfBoth(int set) {
            boolean isOfBoth = true;
            for (int i = 0; i < laid; i++) {
                isOfBoth &= (set >> i & 1) == 0 || ruleAt(i).sideSet == SIDES_OF_BOTH;
            }
            return isOfBoth;
        }

        /** The relations on which the rows of a relation can depend, with itself. */
        int reachedFrom(int relation) {
            int reached = 1 << relation;
            for (int pass = 0; pass < MOST_RELATIONS; pass++) {
                for (int i = 0; i < laid; i++) {
                    if ((reached >> ruleAt(i).head & 1) != 0) {
                        reached |= read(ruleAt(i));
                    }
                }
            }
            return reached;
        }

        int read(Rule rule) {
            int set = rule.isGroup() ? 1 << rule.of : 0;
            for (int p = 0; p < rule.parts; p++) {
                set |= 1 << rule.relationAt(p);
            }
            return set;
        }
    }

    /** Goes through the values of a rule's variables with which its parts are so, smaller values first. */
    private static final class Walk {
        final int[] value = new int[SLOTS];
        final int[] order = new int[MOST_PARTS];
        final int[] list = new int[VARIABLES];
        final int[] left = new int[VARIABLES];
        final int[] due = new int[VARIABLES];
        final int width;
        Rule rule;
        Rows rows;
        int fixed;
        int considered;
        int opened;
        boolean isOver;
        boolean isBefore;

        Walk(int width, Rule rule, Rows rows) {
            this.width = width;
            this.rule = rule;
            this.rows = rows;
        }

        /** Frozen constants stand behind the frozen variables, others are their own values. */
        void aim(Rule rule, Rows rows) {
            this.rule = rule;
            this.rows = rows;
            fixed = 0;
            for (int slot = 0; slot < SLOTS; slot++) {
                value[slot] = slot < VARIABLES ? NONE : slot == NO_PLACE ? 0 : slot - FROZEN_VALUES + width;
            }
            for (int i = 0; i < MOST_PARTS; i++) {
                order[i] = i;
            }
            considered = 0;
            opened = 0;
            isOver = true;
        }

        int valueAt(int slot) {
            return slot >= 0 && slot < SLOTS ? value[slot] : NONE;
        }

        int partAt(int i) {
            return i >= 0 && i < MOST_PARTS ? order[i] : 0;
        }

        /** Binds the head's variables to a row (NONE: to no value); whether the head can be such a row. */
        boolean fix(int first, int second) {
            return bind(rule.headX, first) && (rule.isGroup() || bind(rule.headY, second));
        }

        boolean bind(int slot, int constant) {
            if (constant == NONE || slot < 0 || slot >= SLOTS) {
                return true;
            }
            if (slot >= VARIABLES || value[slot] != NONE) {
                return value[slot] == constant;
            }
            value[slot] = constant;
            fixed |= 1 << slot;
            return true;
        }

        int variablesOf(int k) {
            int set = 0;
            for (int i = 0; i < k; i++) {
                set |= rule.variablesAt(partAt(i));
            }
            return set;
        }

        /** Starts over with the first k parts alone, for the values of these variables. */
        void open(int k, int variables) {
            considered = Math.min(k, rule.parts);
            opened = 0;
            for (int v = 0; v < VARIABLES; v++) {
                if ((fixed >> v & 1) == 0) {
                    value[v] = NONE;
                    if ((variables >> v & 1) != 0 && opened < VARIABLES) {
                        list[opened] = v;
                        opened++;
                    }
                }
            }
            isBefore = true;
            isOver = !isSoFar();
            dueParts();
        }

        /** A part is looked at as soon as the last of its variables has a value. */
        void dueParts() {
            for (int at = 0; at < VARIABLES; at++) {
                due[at] = 0;
            }
            for (int i = 0; i < considered; i++) {
                int p = partAt(i);
                int last = NONE;
                for (int at = 0; at < opened && at < VARIABLES; at++) {
                    if ((rule.variablesAt(p) >> list[at] & 1) != 0) {
                        last = at;
                    }
                }
                if (last >= 0) {
                    due[last] |= 1 << p;
                }
            }
        }

        /** Whether all considered parts are so that have no open variable. */
        boolean isSoFar() {
            if (rule.isGroup()) {
                return value[0] == NONE || rows.following(rule.of, value[0]) != 0;
            }
            for (int i = 0; i < considered; i++) {
                int p = partAt(i);
                int first = valueAt(rule.xAt(p));
                int second = valueAt(rule.yAt(p));
                if (first != NONE && second != NONE
                        && rows.has(rule.relationAt(p), first, second) == rule.isNotAt(p)) {
                    return false;
                }
            }
            return true;
        }

        /** Goes on to the next values; false, if there are no more. */
        boolean next() {
            int at = opened - 1;
            if (isBefore) {
                isBefore = false;
                if (isOver || opened == 0) {
                    boolean isOnce = !isOver;
                    isOver = true;
                    return isOnce;
                }
                at = 0;
                left[0] = choices(0);
            }
            for (int step = 0; step < MOST_STEPS && !isOver && at >= 0 && at < VARIABLES; step++) {
                int v = list[at];
                if (v < 0 || v >= VARIABLES) {
                    break;
                }
                if (left[at] == 0) {
                    value[v] = NONE;
                    at--;
                } else {
                    int least = left[at] & -left[at];
                    left[at] ^= least;
                    value[v] = Integer.bitCount(least - 1);
                    if (at + 1 == opened) {
                        return true;
                    }
                    at++;
                    if (at < VARIABLES) {
                        left[at] = choices(at);
                    }
                }
            }
            isOver = true;
            return false;
        }

        /** The values of an open variable with which all parts are so that are due with it. */
        int choices(int at) {
            if (rule.isGroup()) {
                return rows.starts(rule.of);
            }
            int found = (1 << width) - 1;
            if (at < 0 || at >= VARIABLES) {
                return found;
            }
            for (int p = 0; due[at] >> p != 0 && p < MOST_PARTS; p++) {
                if ((due[at] >> p & 1) != 0) {
                    int x = rule.xAt(p);
                    int y = rule.yAt(p);
                    int so = x != list[at] ? rows.following(rule.relationAt(p), valueAt(x))
                        : y != list[at] ? rows.leading(rule.relationAt(p), valueAt(y)) : rows.doubled(rule.relationAt(p));
                    found &= rule.isNotAt(p) ? ~so : so;
                }
            }
            return found;
        }

        /** How many values there are still to come. */
        int remaining() {
            int many = 0;
            while (many < MOST_MATCHES && next()) {
                many++;
            }
            return many;
        }

        /** Finds the first values with which the most first parts are so; how many these are. */
        int farthest() {
            for (int k = rule.parts; k > 0; k--) {
                open(k, rule.variables);
                if (next()) {
                    return k;
                }
            }
            open(0, rule.variables);
            next();
            return 0;
        }

        int headFirst() {
            return valueAt(rule.headX);
        }

        int headSecond() {
            return rule.isGroup() ? groupValue() : valueAt(rule.headY);
        }

        int groupValue() {
            int set = rows.following(rule.of, value[0]);
            int grouped = 0;
            if (rule.groupKind == 0) {
                grouped = Integer.bitCount(set);
            } else if (rule.groupKind == 1) {
                grouped = Integer.bitCount((set & -set) - 1);
            } else {
                for (int v = 0; v < width; v++) {
                    grouped += (set >> v & 1) != 0 ? v : 0;
                }
            }
            return Math.min(grouped, CONSTANTS - 1);
        }

        /** Whether one of the rows of the with parts is among these. */
        boolean uses(Rows fresh) {
            boolean isUsed = false;
            for (int p = 0; p < rule.withs; p++) {
                isUsed |= fresh.has(rule.relationAt(p), valueAt(rule.xAt(p)), valueAt(rule.yAt(p)));
            }
            return isUsed;
        }

        /** Puts the rows that the match uses in a set. */
        void putUsed(Rows used) {
            for (int p = 0; p < rule.withs; p++) {
                used.put(rule.relationAt(p), valueAt(rule.xAt(p)), valueAt(rule.yAt(p)));
            }
            if (rule.isGroup()) {
                int set = rows.following(rule.of, value[0]);
                for (int second = 0; second < width; second++) {
                    if ((set >> second & 1) != 0) {
                        used.put(rule.of, value[0], second);
                    }
                }
            }
        }

        /** The greatest height of the rows that the match uses; NONE, if one of them has none yet. */
        int tallest(int[] tall) {
            int most = 0;
            for (int p = 0; p < rule.withs; p++) {
                most = higher(most, tall, rule.relationAt(p), valueAt(rule.xAt(p)), valueAt(rule.yAt(p)));
            }
            for (int second = 0; rule.isGroup() && second < width; second++) {
                if (rows.has(rule.of, value[0], second)) {
                    most = higher(most, tall, rule.of, value[0], second);
                }
            }
            return most;
        }

        int higher(int most, int[] tall, int relation, int first, int second) {
            int cell = (relation * CONSTANTS + first) * CONSTANTS + second;
            if (most == NONE || cell < 0 || cell >= tall.length || tall[cell] == NONE) {
                return NONE;
            }
            return Math.max(most, tall[cell]);
        }

        /** The values as one number, those of variables with smaller numbers ahead. */
        int code() {
            int code = 0;
            for (int v = 0; v < VARIABLES; v++) {
                code = code * CONSTANTS + Math.max(value[v], 0);
            }
            return code;
        }

        void recall(int code) {
            int rest = code;
            for (int v = VARIABLES - 1; v >= 0; v--) {
                value[v] = rest % CONSTANTS;
                rest /= CONSTANTS;
            }
        }

        /** Puts the with parts in the order of the plan. */
        void arrange() {
            int known = 0;
            int taken = 0;
            for (int i = 0; i < rule.withs && i < MOST_PARTS; i++) {
                int best = NONE;
                for (int p = 0; p < rule.withs; p++) {
                    if ((taken >> p & 1) == 0 && (best == NONE || isEarlier(p, best, known))) {
                        best = p;
                    }
                }
                order[i] = best;
                taken |= 1 << best;
                known |= rule.variablesAt(best);
            }
        }

        boolean isEarlier(int p, int q, int known) {
            int more = knownPlaces(p, known) - knownPlaces(q, known);
            return more > 0 || more == 0 && rows.manyOf(rule.relationAt(p)) < rows.manyOf(rule.relationAt(q));
        }

        int knownPlaces(int p, int known) {
            return (isKnown(rule.xAt(p), known) ? 1 : 0) + (isKnown(rule.yAt(p), known) ? 1 : 0);
        }

        boolean isKnown(int slot, int known) {
            return slot < VARIABLES ? (known >> slot & 1) != 0 : slot != NO_PLACE;
        }
    }

    /** Makes answers, layer by layer in rounds, and counts what this takes. */
    private static final class Maker {
        final Book book;
        final Walk walk;
        final Rows made = new Rows(CONSTANTS);
        final Rows fresh = new Rows(CONSTANTS);
        final Rows standing = new Rows(CONSTANTS);
        int rounds;
        int firings;

        Maker(Book book, Walk walk) {
            this.book = book;
            this.walk = walk;
        }

        /** Way 0 is over and over, 1 only what is new; by a set of rules, and rows may be the only ones allowed. */
        void make(Rows into, Rows facts, int side, int way, int rules, Rows allowed) {
            rounds = 0;
            firings = 0;
            into.copy(facts);
            if (allowed != null) {
                into.keepOnly(allowed);
            }
            for (int layer = 0; layer < MOST_RELATIONS; layer++) {
                boolean isGrowing = hasRules(layer, side, rules);
                for (int round = 0; isGrowing && round < MOST_ROUNDS; round++) {
                    boolean isNewOnly = way == 1 && round > 0;
                    made.clear();
                    for (int i = 0; i < book.laid; i++) {
                        Rule rule = book.ruleAt(i);
                        if ((rules >> i & 1) != 0 && rule.isOf(side) && book.layerOf(rule.head) == layer
                                && (!isNewOnly || rule.reads(fresh))) {
                            fire(rule, into, isNewOnly, allowed);
                        }
                    }
                    rounds++;
                    isGrowing = into.gain(made, fresh);
                }
            }
        }

        boolean hasRules(int layer, int side, int rules) {
            for (int i = 0; i < book.laid; i++) {
                Rule rule = book.ruleAt(i);
                if ((rules >> i & 1) != 0 && rule.isOf(side) && book.layerOf(rule.head) == layer) {
                    return true;
                }
            }
            return false;
        }

        void fire(Rule rule, Rows rows, boolean isNewOnly, Rows allowed) {
            walk.aim(rule, rows);
            walk.open(rule.parts, rule.variables);
            for (int i = 0; i < MOST_MATCHES && walk.next(); i++) {
                if (!isNewOnly || walk.uses(fresh)) {
                    firings++;
                    int first = walk.headFirst();
                    int second = walk.headSecond();
                    if (allowed == null || allowed.has(rule.head, first, second)) {
                        made.put(rule.head, first, second);
                    }
                }
            }
        }

        /** How many rows that were there stood on nothing but themselves, now that they are gone. */
        int clinging(Rows had, Rows now, Rows facts) {
            standing.copy(now);
            int many = 0;
            for (int layer = 0; layer < MOST_RELATIONS; layer++) {
                standLayer(layer, had);
                boolean isFalling = true;
                for (int round = 0; isFalling && round < MOST_ROUNDS; round++) {
                    isFalling = fall(layer, facts);
                }
                for (int relation = 0; relation < book.relations; relation++) {
                    if (book.layerOf(relation) == layer) {
                        many += Integer.bitCount(standing.cellsOf(relation) & ~now.cellsOf(relation));
                    }
                }
                standLayer(layer, now);
            }
            return many;
        }

        void standLayer(int layer, Rows rows) {
            for (int relation = 0; relation < book.relations; relation++) {
                if (book.layerOf(relation) == layer) {
                    standing.copyOf(relation, rows);
                }
            }
        }

        /** Takes the rows of the layer out that no fact and no match holds up. */
        boolean fall(int layer, Rows facts) {
            made.copy(facts);
            for (int i = 0; i < book.laid; i++) {
                Rule rule = book.ruleAt(i);
                if (rule.isOf(0) && book.layerOf(rule.head) == layer) {
                    fire(rule, standing, false, null);
                }
            }
            int had = standing.all;
            for (int relation = 0; relation < book.relations; relation++) {
                if (book.layerOf(relation) == layer) {
                    standing.keepOnlyOf(relation, made);
                }
            }
            return standing.all < had;
        }
    }

    /** Heights, best reasons and proofs of the answer's rows, found again after each change. */
    private static final class Grounds {
        final Book book;
        final Rows facts;
        final Rows answer;
        final Walk walk;
        final Rows proven = new Rows(CONSTANTS);
        final Rows used = new Rows(CONSTANTS);
        final int[] tall = new int[MOST_RELATIONS * CELLS];
        final int[] best = new int[MOST_RELATIONS * CELLS];
        final int[] many = new int[MOST_RELATIONS * CELLS];
        boolean isReady;
        boolean isClosed;

        Grounds(Book book, Walk walk, Rows facts, Rows answer) {
            this.book = book;
            this.walk = walk;
            this.facts = facts;
            this.answer = answer;
        }

        static int cellOf(int relation, int first, int second) {
            return (relation * CONSTANTS + first) * CONSTANTS + second;
        }

        static boolean isCell(int cell) {
            return cell >= 0 && cell < MOST_RELATIONS * CELLS;
        }

        static boolean isIn(Rows rows, int cell) {
            return rows.has(cell / CELLS, cell % CELLS / CONSTANTS, cell % CONSTANTS);
        }

        void ready() {
            if (isReady) {
                return;
            }
            isReady = true;
            isClosed = true;
            for (int cell = 0; cell < MOST_RELATIONS * CELLS; cell++) {
                tall[cell] = isIn(facts, cell) ? 0 : NONE;
                best[cell] = NONE;
                many[cell] = 0;
            }
            boolean isRising = true;
            for (int level = 1; isRising && level <= MOST_RELATIONS * CELLS; level++) {
                isRising = climb(level);
            }
        }

        /** Finds the rows of this height; the first climb counts the matches of all rows, too. */
        boolean climb(int level) {
            boolean isRising = false;
            for (int i = 0; i < book.laid; i++) {
                Rule rule = book.ruleAt(i);
                if (rule.isOf(0)) {
                    walk.aim(rule, answer);
                    walk.open(rule.parts, rule.variables);
                    for (int m = 0; m < MOST_MATCHES && walk.next(); m++) {
                        isRising |= climbBy(i, cellOf(rule.head, walk.headFirst(), walk.headSecond()), level);
                    }
                }
            }
            return isRising;
        }

        boolean climbBy(int rule, int cell, int level) {
            if (!isCell(cell)) {
                return false;
            }
            if (level == 1) {
                many[cell]++;
                isClosed &= isIn(answer, cell);
            }
            if (tall[cell] != NONE || walk.tallest(tall) != level - 1) {
                return false;
            }
            tall[cell] = level;
            best[cell] = rule * CODES + walk.code();
            return true;
        }

        int tallOf(int relation, int first, int second) {
            int cell = cellOf(relation, first, second);
            return isCell(cell) ? tall[cell] : NONE;
        }

        /** The best reason as a rule's number and its values in one number; NONE: it is told. */
        int bestOf(int relation, int first, int second) {
            int cell = cellOf(relation, first, second);
            return isCell(cell) ? best[cell] : NONE;
        }

        int reasonsOf(int relation, int first, int second) {
            int cell = cellOf(relation, first, second);
            if (!isCell(cell) || !isIn(answer, cell)) {
                return 0;
            }
            return many[cell] + (isIn(facts, cell) ? 1 : 0);
        }

        /** The reason with this number of a row that has so many, told as the best one is. */
        int reasonAt(int relation, int first, int second, int k) {
            int left = k;
            if (facts.has(relation, first, second)) {
                if (left == 0) {
                    return NONE;
                }
                left--;
            }
            for (int i = 0; i < book.laid; i++) {
                Rule rule = book.ruleAt(i);
                walk.aim(rule, answer);
                if (rule.isOf(0) && rule.head == relation && walk.fix(first, second)) {
                    walk.open(rule.parts, rule.variables);
                    for (int m = 0; m < MOST_MATCHES && walk.next(); m++) {
                        if (walk.headSecond() == second && left-- == 0) {
                            return i * CODES + walk.code();
                        }
                    }
                }
            }
            return NONE;
        }

        /** Gathers the proof from the tallest row down, for a best reason uses lower rows alone. */
        void prove(int relation, int first, int second) {
            proven.clear();
            if (!answer.has(relation, first, second)) {
                return;
            }
            proven.put(relation, first, second);
            for (int level = tallOf(relation, first, second); level > 0; level--) {
                for (int cell = 0; cell < MOST_RELATIONS * CELLS; cell++) {
                    if (tall[cell] == level && isIn(proven, cell)) {
                        recallBest(cell);
                        walk.putUsed(proven);
                    }
                }
            }
        }

        void recallBest(int cell) {
            int reason = isCell(cell) ? best[cell] : NONE;
            walk.aim(book.ruleAt(Math.floorDiv(reason, CODES)), answer);
            walk.recall(Math.floorMod(reason, CODES));
        }

        /** The cell of a row of the proof, lower ones first. */
        int provenAt(int k) {
            int left = k;
            for (int level = 0; level <= MOST_RELATIONS * CELLS; level++) {
                for (int cell = 0; cell < MOST_RELATIONS * CELLS; cell++) {
                    if (tall[cell] == level && isIn(proven, cell) && left-- == 0) {
                        return cell;
                    }
                }
            }
            return 0;
        }

        /** Whether each row is a fact or is made. */
        boolean isFull() {
            boolean isFull = true;
            for (int cell = 0; cell < MOST_RELATIONS * CELLS; cell++) {
                isFull &= !isIn(answer, cell) || isIn(facts, cell) || many[cell] > 0;
            }
            return isFull;
        }

        /** Whether each best reason uses lower rows alone; all proofs have no others than these rows. */
        boolean isFalling() {
            boolean isFalling = true;
            for (int cell = 0; cell < MOST_RELATIONS * CELLS; cell++) {
                if (isIn(answer, cell) && tall[cell] != 0) {
                    recallBest(cell);
                    int used = walk.tallest(tall);
                    isFalling &= used != NONE && used < tall[cell];
                }
            }
            return isFalling;
        }
    }

    /** Asks a question back through the rules, pattern by pattern. */
    private static final class Asker {
        static final int CHOICES = CONSTANTS + 1;
        static final int PATTERNS = MOST_RELATIONS * CHOICES * CHOICES;
        final Book book;
        final Rows answer;
        final Walk walk;
        final Rows fitting = new Rows(CONSTANTS);
        final boolean[] isAsked = new boolean[PATTERNS];
        final int[] queue = new int[PATTERNS];
        int asked;

        Asker(Book book, Walk walk, Rows answer) {
            this.book = book;
            this.walk = walk;
            this.answer = answer;
        }

        void gather(int relation, int first, int second) {
            for (int pattern = 0; pattern < PATTERNS; pattern++) {
                isAsked[pattern] = false;
            }
            asked = 0;
            ask(relation, first, second);
            for (int i = 0; i < asked && i < PATTERNS; i++) {
                for (int r = 0; r < book.laid; r++) {
                    Rule rule = book.ruleAt(r);
                    if (rule.isOf(0) && rule.head == queue[i] / CHOICES / CHOICES) {
                        follow(rule, queue[i] / CHOICES % CHOICES - 1, queue[i] % CHOICES - 1);
                    }
                }
            }
        }

        void ask(int relation, int first, int second) {
            int pattern = (relation * CHOICES + first + 1) * CHOICES + second + 1;
            if (pattern >= 0 && pattern < PATTERNS && asked < PATTERNS && !isAsked[pattern]) {
                isAsked[pattern] = true;
                queue[asked] = pattern;
                asked++;
            }
        }

        /** Asks what a rule needs that makes rows of the pattern. */
        void follow(Rule rule, int first, int second) {
            walk.aim(rule, answer);
            if (!walk.fix(first, second)) {
                return;
            }
            if (rule.isGroup()) {
                ask(rule.of, first, NONE);
            }
            for (int p = 0; p < rule.parts; p++) {
                if (!rule.isCompareAt(p)) {
                    walk.open(p, walk.variablesOf(p));
                    for (int m = 0; m < MOST_MATCHES && walk.next(); m++) {
                        int y = rule.yAt(p);
                        ask(rule.relationAt(p), walk.valueAt(rule.xAt(p)), y == NO_PLACE ? NONE : walk.valueAt(y));
                    }
                }
            }
        }

        /** All rows that fit one or more of what is asked, whether they are there or not. */
        void gatherFitting() {
            fitting.clear();
            for (int i = 0; i < asked && i < PATTERNS; i++) {
                int first = queue[i] / CHOICES % CHOICES - 1;
                int second = queue[i] % CHOICES - 1;
                for (int cell = 0; cell < CELLS; cell++) {
                    if ((first == NONE || first == cell / CONSTANTS) && (second == NONE || second == cell % CONSTANTS)) {
                        fitting.put(queue[i] / CHOICES / CHOICES, cell / CONSTANTS, cell % CONSTANTS);
                    }
                }
            }
        }

        int fittingAnswers() {
            int many = 0;
            for (int relation = 0; relation < book.relations; relation++) {
                many += Integer.bitCount(fitting.cellsOf(relation) & answer.cellsOf(relation));
            }
            return many;
        }
    }

    /** Freezes a rule: its variables become new constants and its with parts the only rows. */
    private static final class Frost {
        final Book book;
        final Walk walk;
        final Rows rows;
        final Rows made = new Rows(FROZEN_VALUES);
        final Rows fresh = new Rows(FROZEN_VALUES);

        Frost(Book book, Rows rows) {
            this.book = book;
            this.rows = rows;
            walk = new Walk(FROZEN_VALUES, book.blank, rows);
        }

        /** A frozen term is its own slot; the place that is not there has 0 in all rows. */
        static int frozen(int slot) {
            return slot == NO_PLACE ? 0 : slot;
        }

        void freeze(Rule rule) {
            rows.clear();
            for (int p = 0; p < rule.withs; p++) {
                rows.put(rule.relationAt(p), frozen(rule.xAt(p)), frozen(rule.yAt(p)));
            }
        }

        /** Finds the first terms of the one rule for the variables of the wide one with which it contains it. */
        boolean finds(Rule rule, Rule wide) {
            freeze(rule);
            walk.aim(wide, rows);
            if (rule.head != wide.head || !walk.fix(frozen(rule.headX), frozen(rule.headY))) {
                return false;
            }
            walk.open(wide.parts, wide.variables);
            return walk.next();
        }

        int slotFor(int variable) {
            return walk.valueAt(variable);
        }

        boolean isNeedless(int number) {
            Rule rule = book.ruleAt(number);
            if (rule.isGroup()) {
                return false;
            }
            freeze(rule);
            boolean isGrowing = true;
            for (int round = 0; isGrowing && round < MOST_ROUNDS; round++) {
                made.clear();
                for (int i = 0; i < book.laid; i++) {
                    if (i != number && book.ruleAt(i).isOf(0) && book.ruleAt(i).isPlain()) {
                        fire(book.ruleAt(i));
                    }
                }
                isGrowing = rows.gain(made, fresh);
            }
            return rows.has(rule.head, frozen(rule.headX), frozen(rule.headY));
        }

        void fire(Rule rule) {
            walk.aim(rule, rows);
            walk.open(rule.parts, rule.variables);
            for (int i = 0; i < MOST_MATCHES && walk.next(); i++) {
                made.put(rule.head, walk.headFirst(), walk.headSecond());
            }
        }
    }

    /** The answers of the last times, each as a set of cells for each relation. */
    private static final class History {
        final int[] cells = new int[KEPT_TIMES * MOST_RELATIONS];

        void keep(int time, Rows rows) {
            for (int relation = 0; relation < MOST_RELATIONS; relation++) {
                cells[Math.floorMod(time, KEPT_TIMES) * MOST_RELATIONS + relation] = rows.cellsOf(relation);
            }
        }

        boolean had(int time, int relation, int cell) {
            return relation >= 0 && relation < MOST_RELATIONS
                && (cells[Math.floorMod(time, KEPT_TIMES) * MOST_RELATIONS + relation] >> cell & 1) != 0;
        }
    }

    /** Writes texts, all of them in one builder. */
    private static final class Scribe {
        final Book book;
        final StringBuilder text = new StringBuilder();

        Scribe(Book book) {
            this.book = book;
        }

        void begin() {
            text.setLength(0);
        }

        String told() {
            return text.toString();
        }

        int length() {
            return text.length();
        }

        void put(char sign) {
            text.append(sign);
        }

        void putNumber(int number) {
            text.append(number);
        }

        void divide() {
            if (text.length() > 0) {
                text.append(' ');
            }
        }

        void tellRow(int relation, int first, int second) {
            text.append(relation).append('(').append(first);
            if (book.placesOf(relation) == 2) {
                text.append(',').append(second);
            }
            text.append(')');
        }

        void tellFitting(Rows rows, int relation, int first, int second) {
            for (int cell = 0; cell < CELLS; cell++) {
                boolean isFitting = (first == NONE || first == cell / CONSTANTS)
                    && (second == NONE || second == cell % CONSTANTS);
                if (isFitting && rows.has(relation, cell / CONSTANTS, cell % CONSTANTS)) {
                    divide();
                    tellRow(relation, cell / CONSTANTS, cell % CONSTANTS);
                }
            }
        }

        void tellReason(int code) {
            if (code < 0) {
                text.append("told");
            } else {
                text.append('r').append(code / CODES);
                tellValues(book.ruleAt(code / CODES), code % CODES);
            }
        }

        void tellValues(Rule rule, int code) {
            int unit = CODES / CONSTANTS;
            for (int v = 0; v < VARIABLES; v++) {
                if ((rule.variables >> v & 1) != 0 && unit > 0) {
                    text.append(' ').append(code / unit % CONSTANTS);
                }
                unit /= CONSTANTS;
            }
        }

        void tellRule(Rule rule) {
            if (rule.isGroup()) {
                text.append(rule.head).append(":-g").append(rule.groupKind).append(' ').append(rule.of);
            } else {
                tellAtom(rule.head, rule.headX, rule.headY);
                text.append(":-");
                for (int p = 0; p < rule.parts; p++) {
                    if (p > 0) {
                        text.append(',');
                    }
                    tellPart(rule, p);
                }
            }
            text.append('/').append(rule.sideSet);
        }

        void tellPart(Rule rule, int p) {
            if (rule.isCompareAt(p)) {
                tellTerm(rule.xAt(p));
                text.append(signOf(rule.relationAt(p) - MOST_RELATIONS));
                tellTerm(rule.yAt(p));
            } else {
                if (rule.isNotAt(p)) {
                    text.append('!');
                }
                tellAtom(rule.relationAt(p), rule.xAt(p), rule.yAt(p));
            }
        }

        static char signOf(int kind) {
            switch (kind) {
                case 0: return '=';
                case 1: return '#';
                case 2: return '<';
                default: return '+';
            }
        }

        void tellAtom(int relation, int x, int y) {
            text.append(relation).append('(');
            tellTerm(x);
            if (y != NO_PLACE) {
                text.append(',');
                tellTerm(y);
            }
            text.append(')');
        }

        void tellTerm(int slot) {
            if (slot < VARIABLES) {
                text.append('v').append(slot);
            } else {
                text.append(slot - VARIABLES);
            }
        }
    }
}
