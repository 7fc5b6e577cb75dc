import java.io.IOException;
import java.util.ArrayList;
import java.util.List;
import java.util.TreeMap;
import java.util.TreeSet;
import java.util.function.Supplier;

/**
 * Each row 'Throws' of each promise: on desks of several kinds each call is tried with all of its edge values put
 * together, so that each condition applies by itself, and with each other one that it can meet. The exception that is
 * named first is due, and nothing has changed after it; where no condition applies, the call answers.
 */
public final class RefusalTest extends Checks {
    private static Document document;

    // ---- desks

    /** A desk of one kind, and what a test must know of it to say what is due. */
    private static final class Desk {
        final String name;
        final Supplier<Derivationdesk> maker;
        int[] places = {};
        /** For each rule the relation of its head, and whether it is plain, not plain or a group: 'p', 'n', 'g'. */
        int[] heads = {};
        String kinds = "";
        /** Parts of the draft, NONE without one; what is wrong with it: "", "unsafe" or "ring". */
        int parts = NONE;
        String flaw = "";
        int time;

        Desk(String name, Supplier<Derivationdesk> maker) {
            this.name = name;
            this.maker = maker;
        }

        Desk draft(int parts, String flaw) {
            this.parts = parts;
            this.flaw = flaw;
            return this;
        }

        Desk filled(int[] places, int[] heads, String kinds, int time) {
            this.places = places;
            this.heads = heads;
            this.kinds = kinds;
            this.time = time;
            return this;
        }

        boolean hasRelation(int relation) { return relation >= 0 && relation < places.length; }
        boolean hasRule(int rule) { return rule >= 0 && rule < heads.length; }
        boolean isSingle(int relation) { return hasRelation(relation) && places[relation] == 1; }
        boolean isPlain(int rule) { return hasRule(rule) && kinds.charAt(rule) == 'p'; }
        boolean isGroup(int rule) { return hasRule(rule) && kinds.charAt(rule) == 'g'; }
    }

    private static final int[] FOUR = {2, 2, 1, 2};
    private static final int[] EIGHT = {2, 2, 1, 2, 1, 1, 2, 2};

    /**
     * 0 of facts, 1 its closure (one row of it told, too), 2 of one place, 3 a group of 1.
     * Rule 3 makes 2 with 0 and without 1, on side 1 alone.
     */
    private static Derivationdesk some() {
        Derivationdesk d = new Derivationdesk();
        for (int n : FOUR) d.relation(n);
        d.tell(0, 0, 1);
        d.tell(0, 1, 2);
        d.tell(1, 0, 1);
        d.tell(2, 3, NONE);
        d.closure(1, 0);
        d.group(3, 1, 0, 3);
        d.draft(2, 0, NONE);
        d.with(0, 0, 1);
        d.without(1, 1, 0);
        d.lay(2);
        d.knock();
        return d;
    }

    private static Derivationdesk drafting(Derivationdesk d, int head, int y, int parts) {
        d.draft(head, 0, y);
        for (int i = 0; i < parts; i++) d.with(0, i % 2, 1 - i % 2);
        return d;
    }

    private static Derivationdesk ringing(Derivationdesk d) {
        d.draft(1, 0, 1);
        d.with(0, 0, 1);
        d.without(3, 1, 0);
        return d;
    }

    private static Derivationdesk full(int rules) {
        Derivationdesk d = some();
        for (int i = 4; i < 8; i++) d.relation(EIGHT[i]);
        while (d.count(3) < rules) {
            d.draft(7, 0, 1);
            d.with(6, 0, 1);
            d.lay(3);
        }
        return d;
    }

    private static Derivationdesk late() {
        Derivationdesk d = some();
        while (d.count(5) < 40) d.sides(3, 2);
        return d;
    }

    private static final int[] SOME_HEADS = {1, 1, 3, 2};

    private static Desk someDesk(String name, Supplier<Derivationdesk> maker) {
        return new Desk(name, maker).filled(FOUR, SOME_HEADS, "ppgn", 7);
    }

    private static Desk fullDesk(String name, int rules, Supplier<Derivationdesk> maker) {
        int[] heads = new int[rules];
        for (int i = 0; i < rules; i++) heads[i] = i < 4 ? SOME_HEADS[i] : 7;
        return new Desk(name, maker).filled(EIGHT, heads, "ppgn" + "p".repeat(rules - 4), 7 + rules - 4);
    }

    private static final Desk EMPTY = new Desk("an empty desk", Derivationdesk::new);
    private static final Desk SOME = someDesk("a desk without a draft", RefusalTest::some);
    private static final Desk BARE = someDesk("a draft without a part", () -> drafting(some(), 1, 1, 0)).draft(0, "");
    private static final Desk GOOD = someDesk("a good draft", () -> drafting(some(), 1, 1, 3)).draft(3, "");
    private static final Desk UNSAFE = someDesk("an unsafe draft", () -> drafting(some(), 1, 2, 4)).draft(4, "unsafe");
    private static final Desk RING = someDesk("a draft with a ring", () -> ringing(some())).draft(2, "ring");
    private static final Desk LATE = someDesk("a late desk", RefusalTest::late).filled(FOUR, SOME_HEADS, "ppgn", 40);
    private static final Desk FULL = fullDesk("a full desk", 12, () -> drafting(full(12), 7, 1, 4)).draft(4, "");
    private static final Desk FULL_BARE = fullDesk("a full desk, a draft without a part", 12, () -> drafting(full(12), 7, 1, 0)).draft(0, "");
    private static final Desk FULL_UNSAFE = fullDesk("a full desk, an unsafe draft", 12, () -> drafting(full(12), 7, 2, 2)).draft(2, "unsafe");
    private static final Desk FULL_RING = fullDesk("a full desk, a draft with a ring", 12, () -> ringing(full(12))).draft(2, "ring");
    private static final Desk FULL_NONE = fullDesk("a full desk without a draft", 12, () -> full(12));
    private static final Desk ELEVEN = fullDesk("a desk of 11 rules", 11, () -> drafting(full(11), 7, 1, 1)).draft(1, "");
    private static final Desk TEN = fullDesk("a desk of 10 rules", 10, () -> full(10));

    private static final Desk[] LOOKED_AT = {EMPTY, SOME, FULL};
    private static final Desk[] DRAFTS = {EMPTY, SOME, BARE, GOOD, UNSAFE, FULL};
    private static final Desk[] LAID = {EMPTY, SOME, BARE, GOOD, UNSAFE, RING, FULL, FULL_BARE, FULL_UNSAFE, FULL_RING, FULL_NONE, ELEVEN};
    private static final Desk[] RULES = {EMPTY, SOME, GOOD, TEN, ELEVEN, FULL};

    // ---- values

    private static final int[] RELATIONS = {LEAST, -2, -1, 0, 1, 2, 3, 4, 7, 8, GREATEST};
    private static final int[] CONSTANTS = {LEAST, -2, -1, 0, 1, 4, 5, 10, GREATEST};
    private static final int[] TERMS = {LEAST, -2, -1, 0, 3, 4, 9, 10, 14, 15, GREATEST};
    private static final int[] RULE_NUMBERS = {LEAST, -1, 0, 1, 2, 3, 4, 11, 12, GREATEST};
    private static final int[] SETS = {LEAST, -1, 0, 1, 2, 3, 4, GREATEST};
    private static final int[] FLAGS = {0, 1};
    private static final int[] PLACES = {LEAST, -1, 0, 1, 2, 3, GREATEST};

    // ---- trying all of them

    /** The conditions of one call that apply, in the document's order; those behind hold where none before applies. */
    private static final class Verdict {
        final List<String> labels = new ArrayList<>();
        final List<Class<?>> kinds = new ArrayList<>();

        Verdict when(Class<?> kind, String label, boolean applies) {
            ALONE.putIfAbsent(label, 0);
            if (applies) {
                labels.add(label);
                kinds.add(kind);
            }
            return this;
        }

        /** A condition that has no meaning where one before applies. */
        Verdict then(Class<?> kind, String label, boolean applies) {
            return when(kind, label, labels.isEmpty() && applies);
        }
    }

    private interface Judge { void judge(Desk on, int[] a, Verdict v); }

    private interface Call { Object answer(Derivationdesk d, int[] a); }

    /** How often each condition of a call has applied by itself, and which ones have applied at once. */
    private static final TreeMap<String, Integer> ALONE = new TreeMap<>();
    private static final TreeSet<String> TOGETHER = new TreeSet<>();

    private static void all(String name, Judge judge, Call call, Desk[] desks, int[]... values) {
        ALONE.clear();
        TOGETHER.clear();
        for (Desk on : desks) {
            Derivationdesk kept = on.maker.get();
            String before = look(kept);
            int[] at = new int[values.length];
            do {
                int[] a = new int[values.length];
                for (int i = 0; i < a.length; i++) a[i] = values[i][at[i]];
                Verdict v = new Verdict();
                judge.judge(on, a, v);
                note(v);
                String what = on.name + ": " + name + java.util.Arrays.toString(a) + " " + v.labels;
                if (v.labels.isEmpty()) {
                    Derivationdesk fresh = on.maker.get();
                    due(what + " answers", answerOf(() -> call.answer(fresh, a)) instanceof Class, false);
                } else {
                    due(what, answerOf(() -> call.answer(kept, a)), v.kinds.get(0));
                    if (!before.equals(look(kept))) fail(what + " has changed something");
                }
            } while (next(at, values));
            sameEnd(on, kept);
        }
        for (String label : ALONE.keySet()) due(name + ": it has applied by itself: " + label, ALONE.get(label) > 0, true);
    }

    private static boolean next(int[] at, int[][] values) {
        for (int i = at.length - 1; i >= 0; i--) {
            at[i]++;
            if (at[i] < values[i].length) return true;
            at[i] = 0;
        }
        return false;
    }

    private static void note(Verdict v) {
        for (String label : v.labels) ALONE.merge(label, v.labels.size() == 1 ? 1 : 0, Integer::sum);
        for (int i = 0; i < v.labels.size(); i++) {
            for (int j = i + 1; j < v.labels.size(); j++) {
                TOGETHER.add(v.labels.get(i) + " & " + v.labels.get(j));
            }
        }
    }

    /** These were met at once. */
    private static void together(String... pairs) {
        for (String pair : pairs) due("at once: " + pair, TOGETHER.contains(pair), true);
    }

    /** After all refusals the draft is what it was: both desks go on alike. */
    private static void sameEnd(Desk on, Derivationdesk kept) {
        Derivationdesk fresh = on.maker.get();
        String lastOfKept = goOn(kept);
        due(on.name + " goes on after all refusals", lastOfKept, goOn(fresh));
    }

    private static String goOn(Derivationdesk d) {
        Object scrapped = d.count(3) == 12 ? d.scrap(11) : "";
        if (d.count(7) >= 0 && d.count(7) < 4) d.with(0, 2, 1);
        Object laid = answerOf(() -> d.lay(3));
        return scrapped + " " + laid + " " + look(d);
    }

    /** The rows 'Throws' of this promise, word for word: a row that is not named here has no test. */
    private static void rows(int promise, String... rows) {
        at("promise " + promise);
        due("rows Throws", document.thrownBy(promise), List.of(rows));
    }

    private static final String NO_RELATION = "IndexOutOfBoundsException if there is no such RELATION";
    private static final String NO_CONSTANT = "IllegalArgumentException if first is not 0 to 4, or second is not 0 to 4"
        + " (of a RELATION of one PLACE: not NONE)";
    private static final String NO_TERM = "IllegalArgumentException if a TERM is not 0 to 3 or 10 to 14"
        + " (the second one of a RELATION of one PLACE: not NONE)";
    private static final String NO_PATTERN = "IllegalArgumentException if first or second is not NONE to 4"
        + " (the second one of a RELATION of one PLACE: not NONE)";
    private static final String NO_RULE = "IndexOutOfBoundsException if there is no such RULE";
    private static final String A_GROUP = "IllegalStateException if it is a GROUP";
    private static final String NO_DRAFT = "IllegalStateException if there is no draft, or it has 4 PARTS";
    private static final String NO_HEAD = "IndexOutOfBoundsException if there is no such RELATION as head or of";
    private static final String NO_ROOM = "IllegalStateException if there would be more than 12 RULES, or a RING";

    // ---- what applies

    private static boolean outside(int value, int from, int to) {
        return value < from || value > to;
    }

    private static boolean isTerm(int term) {
        return !outside(term, 0, 3) || !outside(term, 10, 14);
    }

    private static void relation(Desk on, int relation, Verdict v) {
        v.when(INDEX, "relation", !on.hasRelation(relation));
    }

    private static void constants(Desk on, int relation, int first, int second, Verdict v) {
        v.when(ARGUMENT, "first", outside(first, 0, 4));
        v.when(ARGUMENT, "second", !on.isSingle(relation) && outside(second, 0, 4));
        v.when(ARGUMENT, "second of one place", on.isSingle(relation) && second != NONE);
    }

    private static void row(Desk on, int relation, int first, int second, Verdict v) {
        relation(on, relation, v);
        constants(on, relation, first, second, v);
    }

    private static void pattern(Desk on, int relation, int first, int second, Verdict v) {
        relation(on, relation, v);
        v.when(ARGUMENT, "first", outside(first, NONE, 4));
        v.when(ARGUMENT, "second", !on.isSingle(relation) && outside(second, NONE, 4));
        v.when(ARGUMENT, "second of one place", on.isSingle(relation) && second != NONE);
    }

    private static void terms(Desk on, int relation, int x, int y, Verdict v) {
        relation(on, relation, v);
        v.when(ARGUMENT, "first term", !isTerm(x));
        v.when(ARGUMENT, "second term", !on.isSingle(relation) && !isTerm(y));
        v.when(ARGUMENT, "second term of one place", on.isSingle(relation) && y != NONE);
    }

    private static void room(Desk on, Verdict v) {
        v.when(STATE, "no draft", on.parts == NONE);
        v.when(STATE, "4 parts", on.parts == 4);
    }

    private static boolean isTold(int[] a) {
        return a[0] == 0 && a[2] == a[1] + 1 && a[1] <= 1 || a[0] == 1 && a[1] == 0 && a[2] == 1 || a[0] == 2 && a[1] == 3;
    }

    /** Reasons of the rows of all desks that are not empty: 1(0,1) is told and made, the others told or made once. */
    private static int reasons(int[] a) {
        boolean isMade = a[0] == 1 && a[1] < a[2] && a[2] <= 2 || a[0] == 3 && (a[1] == 0 && a[2] == 2 || a[1] == 1 && a[2] == 1);
        return (isTold(a) ? 1 : 0) + (isMade ? 1 : 0);
    }

    /** Rows of the proof: 1(0,2) by 1(0,1), 0(1,2); 3(0,2) by these two of 1 and 0(1,2); 3(1,1) by 1(1,2), 0(1,2). */
    private static int proof(int[] a) {
        if (isTold(a)) return 1;
        if (a[0] == 1 && reasons(a) > 0) return a[1] == 1 ? 2 : 3;
        return reasons(a) == 0 ? 0 : a[1] == 0 ? 4 : 3;
    }

    /** Whether a group of this one would be a ring: 1 looks at 0; 2 and 3 look at 1 and at what it looks at. */
    private static boolean isRing(int head, int of) {
        return head == of || head == 0 && of <= 3 || head == 1 && (of == 2 || of == 3) || head == 6 && of == 7;
    }

    /** Of closure and generation head may be where of looks at, but for what is without or of a group between. */
    private static boolean isPairRing(int head, int of) {
        return of == 3 && (head == 0 || head == 1);
    }

    // ---- promises

    private static void changes() {
        rows(1);
        rows(2, "IllegalArgumentException if places is not 1 or 2", "IllegalStateException if there are 8");
        all("relation", (on, a, v) -> v
            .when(ARGUMENT, "places", outside(a[0], 1, 2))
            .when(STATE, "8", on.places.length == 8), (d, a) -> d.relation(a[0]), LOOKED_AT, PLACES);
        together("places & 8");
        rows(3, NO_RELATION, NO_CONSTANT, "IllegalStateException if it is told");
        all("tell", (on, a, v) -> {
            row(on, a[0], a[1], a[2], v);
            v.then(STATE, "told", isTold(a));
        }, (d, a) -> d.tell(a[0], a[1], a[2]), LOOKED_AT, RELATIONS, CONSTANTS, CONSTANTS);
        together("relation & first", "relation & second");
        rows(4, NO_RELATION, NO_CONSTANT, "IllegalStateException if it is not told");
        all("untell", (on, a, v) -> {
            row(on, a[0], a[1], a[2], v);
            v.then(STATE, "not told", !isTold(a));
        }, (d, a) -> d.untell(a[0], a[1], a[2]), LOOKED_AT, RELATIONS, CONSTANTS, CONSTANTS);
        together("relation & first", "relation & second");
        rows(13, NO_RULE, "IllegalArgumentException if set is not 1 to 3");
        all("sides", (on, a, v) -> v
            .when(INDEX, "rule", !on.hasRule(a[0]))
            .when(ARGUMENT, "set", outside(a[1], 1, 3)), (d, a) -> d.sides(a[0], a[1]), RULES, RULE_NUMBERS, SETS);
        together("rule & set");
        rows(14, NO_RULE);
        all("scrap", (on, a, v) -> v.when(INDEX, "rule", !on.hasRule(a[0])), (d, a) -> d.scrap(a[0]), RULES, RULE_NUMBERS);
        rows(15);
    }

    private static void drafts() {
        rows(5, NO_RELATION, NO_TERM);
        all("draft", (on, a, v) -> terms(on, a[0], a[1], a[2], v), (d, a) -> d.draft(a[0], a[1], a[2]),
            new Desk[] {EMPTY, SOME, GOOD, FULL}, RELATIONS, TERMS, TERMS);
        together("relation & first term", "relation & second term");
        for (boolean isWith : new boolean[] {true, false}) {
            rows(isWith ? 6 : 7, NO_RELATION, NO_TERM, NO_DRAFT);
            all(isWith ? "with" : "without", (on, a, v) -> {
                terms(on, a[0], a[1], a[2], v);
                room(on, v);
            }, (d, a) -> isWith ? d.with(a[0], a[1], a[2]) : d.without(a[0], a[1], a[2]), DRAFTS, RELATIONS, TERMS, TERMS);
            together("relation & no draft", "relation & 4 parts", "first term & no draft", "first term & 4 parts",
                "second term & no draft", "second term & 4 parts", "second term of one place & no draft",
                "second term of one place & 4 parts", "relation & first term", "relation & second term");
        }
        rows(8, "IllegalArgumentException if kind is not 0 to 3, or a TERM is not 0 to 3 or 10 to 14", NO_DRAFT);
        all("compare", (on, a, v) -> {
            v.when(ARGUMENT, "kind", outside(a[0], 0, 3)).when(ARGUMENT, "first term", !isTerm(a[1]));
            v.when(ARGUMENT, "second term", !isTerm(a[2]));
            room(on, v);
        }, (d, a) -> d.compare(a[0], a[1], a[2]), DRAFTS, new int[] {LEAST, -1, 0, 1, 2, 3, 4, GREATEST}, TERMS, TERMS);
        together("kind & no draft", "kind & 4 parts", "first term & no draft", "first term & 4 parts",
            "second term & no draft", "second term & 4 parts");
    }

    private static void laying() {
        rows(9, "IllegalArgumentException if sides is not 1 to 3, or there is a draft that is not SAFE, or has no PART",
            "IllegalStateException if there is no draft, or there are 12 RULES, or there would be a RING");
        all("lay", (on, a, v) -> v
            .when(ARGUMENT, "sides", outside(a[0], 1, 3))
            .when(ARGUMENT, "not safe", on.flaw.equals("unsafe"))
            .when(ARGUMENT, "no part", on.parts == 0)
            .when(STATE, "no draft", on.parts == NONE)
            .when(STATE, "12 rules", on.heads.length == 12)
            .when(STATE, "ring", on.flaw.equals("ring")), (d, a) -> d.lay(a[0]), LAID, SETS);
        together("sides & not safe", "sides & no part", "sides & no draft", "sides & 12 rules", "sides & ring",
            "not safe & 12 rules", "no part & 12 rules", "no draft & 12 rules", "12 rules & ring");
        rows(10, NO_HEAD, "IllegalArgumentException if kind is not 0 to 2, sides not 1 to 3, or a RELATION has one PLACE",
            "IllegalStateException if there are 12 RULES, or there would be a RING");
        all("group", (on, a, v) -> {
            v.when(INDEX, "head", !on.hasRelation(a[0])).when(INDEX, "of", !on.hasRelation(a[1]));
            v.when(ARGUMENT, "kind", outside(a[2], 0, 2)).when(ARGUMENT, "sides", outside(a[3], 1, 3));
            v.when(ARGUMENT, "one place", on.isSingle(a[0]) || on.isSingle(a[1]));
            v.when(STATE, "12 rules", on.heads.length == 12);
            v.when(STATE, "ring", on.hasRelation(a[0]) && on.hasRelation(a[1]) && isRing(a[0], a[1]));
        }, (d, a) -> d.group(a[0], a[1], a[2], a[3]), new Desk[] {EMPTY, SOME, ELEVEN, FULL},
            new int[] {LEAST, -1, 0, 1, 2, 3, 4, 6, 7, 8, GREATEST}, new int[] {LEAST, -1, 0, 1, 2, 3, 4, 6, 7, 8, GREATEST},
            new int[] {LEAST, -1, 0, 2, 3, GREATEST}, new int[] {-1, 0, 1, 3, 4});
        together("head & of", "head & kind", "head & sides", "of & one place", "head & 12 rules", "kind & sides",
            "kind & one place", "kind & 12 rules", "kind & ring", "sides & 12 rules", "sides & ring", "one place & 12 rules",
            "one place & ring", "12 rules & ring");
        for (boolean isClosure : new boolean[] {true, false}) {
            rows(isClosure ? 11 : 12, NO_HEAD, "IllegalArgumentException if they are the same, or one has one PLACE", NO_ROOM);
            all(isClosure ? "closure" : "generation", (on, a, v) -> {
                v.when(INDEX, "head", !on.hasRelation(a[0])).when(INDEX, "of", !on.hasRelation(a[1]));
                v.when(ARGUMENT, "the same", a[0] == a[1]);
                v.when(ARGUMENT, "one place", on.isSingle(a[0]) || on.isSingle(a[1]));
                v.when(STATE, "more than 12", on.heads.length > 10);
                v.when(STATE, "ring", isPairRing(a[0], a[1]) && on.places.length > 3);
            }, (d, a) -> isClosure ? d.closure(a[0], a[1]) : d.generation(a[0], a[1]), RULES, RELATIONS, RELATIONS);
            together("head & of", "head & the same", "head & one place", "of & one place", "head & more than 12",
                "the same & one place", "the same & more than 12", "one place & more than 12", "more than 12 & ring");
        }
    }

    private static void looks() {
        rows(16, NO_RELATION, NO_CONSTANT);
        rowCall("holds", (d, a) -> d.holds(a[0], a[1], a[2]));
        rows(17, NO_RELATION, "IllegalArgumentException if side is not 0 or 1");
        all("rows", (on, a, v) -> v
            .when(INDEX, "relation", !on.hasRelation(a[0]))
            .when(ARGUMENT, "side", outside(a[1], 0, 1)), (d, a) -> d.rows(a[0], a[1]), LOOKED_AT, RELATIONS, SETS);
        together("relation & side");
        rows(18, NO_RELATION, "IllegalArgumentException if what is not 0 to 4");
        all("ofRelation", (on, a, v) -> v
            .when(INDEX, "relation", !on.hasRelation(a[0]))
            .when(ARGUMENT, "what", outside(a[1], 0, 4)), (d, a) -> d.ofRelation(a[0], a[1]), LOOKED_AT, RELATIONS, CONSTANTS);
        together("relation & what");
        rows(19, NO_RULE);
        all("rule", (on, a, v) -> v.when(INDEX, "rule", !on.hasRule(a[0])), (d, a) -> d.rule(a[0]), RULES, RULE_NUMBERS);
        rows(20, "IllegalArgumentException if what is not 0 to 9");
        all("count", (on, a, v) -> v.when(ARGUMENT, "what", outside(a[0], 0, 9)), (d, a) -> d.count(a[0]), LOOKED_AT,
            new int[] {LEAST, -2, -1, 0, 1, 2, 3, 4, 5, 6, 7, 8, 9, 10, GREATEST});
        rows(21, "IllegalArgumentException if way or what is not 0 or 1");
        all("work", (on, a, v) -> v
            .when(ARGUMENT, "way", outside(a[0], 0, 1))
            .when(ARGUMENT, "what", outside(a[1], 0, 1)), (d, a) -> d.work(a[0], a[1]), LOOKED_AT, PLACES, PLACES);
        together("way & what");
        rows(22, NO_RELATION, NO_PATTERN);
        all("question", (on, a, v) -> pattern(on, a[0], a[1], a[2], v), (d, a) -> d.question(a[0], a[1], a[2]),
            LOOKED_AT, RELATIONS, CONSTANTS, CONSTANTS);
        together("relation & first", "relation & second");
        rows(23, NO_RELATION, NO_PATTERN + ", or what is not 0 or 1");
        all("demands", (on, a, v) -> {
            pattern(on, a[0], a[1], a[2], v);
            v.when(ARGUMENT, "what", outside(a[3], 0, 1));
        }, (d, a) -> d.demands(a[0], a[1], a[2], a[3]), LOOKED_AT, RELATIONS, CONSTANTS, CONSTANTS, PLACES);
        together("relation & first", "relation & second", "relation & what", "first & what", "second of one place & what");
    }

    private static void rowCall(String name, Call call) {
        all(name, (on, a, v) -> row(on, a[0], a[1], a[2], v), call, LOOKED_AT, RELATIONS, CONSTANTS, CONSTANTS);
        together("relation & first", "relation & second", "first & second", "first & second of one place");
    }

    private static void reasons() {
        rows(24, NO_RELATION, NO_CONSTANT);
        rowCall("height", (d, a) -> d.height(a[0], a[1], a[2]));
        rows(25, NO_RELATION, NO_CONSTANT);
        rowCall("reasons", (d, a) -> d.reasons(a[0], a[1], a[2]));
        rows(26, NO_RELATION, NO_CONSTANT, "IllegalStateException if it has no such REASON");
        int[] few = {-1, 0, 1, 2, 3, 4, 8};
        int[] constants = {LEAST, -1, 0, 1, 2, 3, 4, 5, GREATEST};
        all("reason", (on, a, v) -> {
            row(on, a[0], a[1], a[2], v);
            v.when(STATE, "k", outside(a[3], NONE, 2));
            v.then(STATE, "k of this row", a[3] >= reasons(a) || reasons(a) == 0);
        }, (d, a) -> d.reason(a[0], a[1], a[2], a[3]), LOOKED_AT, few, constants, constants, new int[] {LEAST, -2, -1, 0, 1, 2, GREATEST});
        together("relation & k", "first & k", "second & k", "second of one place & k");
        rows(27, NO_RELATION, NO_CONSTANT);
        rowCall("proof", (d, a) -> d.proof(a[0], a[1], a[2]));
        rows(28, NO_RELATION, NO_CONSTANT, "IllegalStateException if its PROOF has no such row");
        all("line", (on, a, v) -> {
            row(on, a[0], a[1], a[2], v);
            v.when(STATE, "k", outside(a[3], 0, 4));
            v.then(STATE, "k of this row", a[3] >= proof(a));
        }, (d, a) -> d.line(a[0], a[1], a[2], a[3]), LOOKED_AT, few, constants, constants, new int[] {LEAST, -1, 0, 1, 2, 3, 4, GREATEST});
        together("relation & k", "first & k", "second & k", "second of one place & k");
        rows(29, NO_RULE, NO_CONSTANT, A_GROUP);
        all("whyNot", (on, a, v) -> {
            v.when(INDEX, "rule", !on.hasRule(a[0]));
            constants(on, on.hasRule(a[0]) ? on.heads[a[0]] : NONE, a[1], a[2], v);
            v.when(STATE, "group", on.isGroup(a[0]));
        }, (d, a) -> d.whyNot(a[0], a[1], a[2]), RULES, RULE_NUMBERS, CONSTANTS, CONSTANTS);
        together("rule & first", "rule & second", "first & group", "second & group");
    }

    private static void joins() {
        rows(30, NO_RULE, A_GROUP);
        all("visits", (on, a, v) -> v
            .when(INDEX, "rule", !on.hasRule(a[0]))
            .when(STATE, "group", on.isGroup(a[0])), (d, a) -> d.visits(a[0], a[1] == 1), RULES, RULE_NUMBERS, FLAGS);
        rows(31, NO_RULE, A_GROUP);
        all("plan", (on, a, v) -> v
            .when(INDEX, "rule", !on.hasRule(a[0]))
            .when(STATE, "group", on.isGroup(a[0])), (d, a) -> d.plan(a[0]), RULES, RULE_NUMBERS);
        rows(32, NO_RULE);
        all("matches", (on, a, v) -> v.when(INDEX, "rule", !on.hasRule(a[0])), (d, a) -> d.matches(a[0]), RULES, RULE_NUMBERS);
        rows(33, NO_RELATION, "IllegalArgumentException if it has one PLACE, or from or to is not 0 to 4");
        all("nearest", (on, a, v) -> v
            .when(INDEX, "relation", !on.hasRelation(a[0]))
            .when(ARGUMENT, "one place", on.isSingle(a[0]))
            .when(ARGUMENT, "from", outside(a[1], 0, 4))
            .when(ARGUMENT, "to", outside(a[2], 0, 4)), (d, a) -> d.nearest(a[0], a[1], a[2]), LOOKED_AT, RELATIONS, CONSTANTS, CONSTANTS);
        together("relation & from", "relation & to", "one place & from", "one place & to", "from & to");
        for (int promise = 34; promise <= 35; promise++) {
            boolean isWitness = promise == 35;
            rows(promise, NO_RULE + " as rule or other", "IllegalStateException if one of them is not PLAIN");
            all(isWitness ? "witness" : "contained", (on, a, v) -> {
                v.when(INDEX, "rule", !on.hasRule(a[0])).when(INDEX, "other", !on.hasRule(a[1]));
                v.when(STATE, "rule not plain", on.hasRule(a[0]) && !on.isPlain(a[0]));
                v.when(STATE, "other not plain", on.hasRule(a[1]) && !on.isPlain(a[1]));
            }, (d, a) -> isWitness ? (Object) d.witness(a[0], a[1]) : (Object) d.contained(a[0], a[1]), RULES, RULE_NUMBERS, RULE_NUMBERS);
            together("rule & other", "rule & other not plain", "other & rule not plain", "rule not plain & other not plain");
        }
        rows(36, NO_RULE);
        all("needless", (on, a, v) -> v.when(INDEX, "rule", !on.hasRule(a[0])), (d, a) -> d.needless(a[0]), RULES, RULE_NUMBERS);
    }

    private static void wishes() {
        rows(37, NO_RELATION + " as wished or relation", NO_CONSTANT);
        all("wish", (on, a, v) -> {
            v.when(INDEX, "wished", !on.hasRelation(a[0]));
            row(on, a[1], a[2], a[3], v);
        }, (d, a) -> d.wish(a[0], a[1], a[2], a[3]), LOOKED_AT, new int[] {LEAST, -1, 0, 2, 4, 8, GREATEST},
            new int[] {LEAST, -1, 1, 2, 4, 8, GREATEST}, new int[] {LEAST, -1, 0, 4, 5, GREATEST}, new int[] {LEAST, -2, -1, 0, 4, 5, GREATEST});
        together("wished & relation", "wished & first", "wished & second", "wished & second of one place", "relation & first");
        rows(38, NO_RELATION + " as given or relation", "IllegalArgumentException if size is not 1 to 3");
        all("differ", (on, a, v) -> v
            .when(INDEX, "given", !on.hasRelation(a[0]))
            .when(INDEX, "relation", !on.hasRelation(a[1]))
            .when(ARGUMENT, "size", outside(a[2], 1, 3)), (d, a) -> d.differ(a[0], a[1], a[2]), LOOKED_AT, RELATIONS, RELATIONS, SETS);
        together("given & relation", "given & size", "relation & size");
        rows(39, NO_RELATION, NO_CONSTANT);
        all("would", (on, a, v) -> row(on, a[0], a[1], a[2], v), (d, a) -> d.would(a[0], a[1], a[2], a[3] == 1),
            LOOKED_AT, RELATIONS, CONSTANTS, CONSTANTS, FLAGS);
        together("relation & first", "relation & second");
        rows(40, NO_RELATION + ", or the ANSWER of that TIME is not kept", NO_CONSTANT);
        all("held", (on, a, v) -> {
            v.when(INDEX, "relation", !on.hasRelation(a[1]));
            v.when(INDEX, "not kept", a[0] < 0 || a[0] > on.time || a[0] < on.time - 29);
            constants(on, a[1], a[2], a[3], v);
        }, (d, a) -> d.held(a[0], a[1], a[2], a[3]), new Desk[] {EMPTY, SOME, LATE},
            new int[] {LEAST, -1, 0, 7, 8, 10, 11, 40, 41, GREATEST}, new int[] {-1, 0, 2, 4}, CONSTANTS, CONSTANTS);
        together("relation & not kept", "relation & first", "not kept & first", "not kept & second", "not kept & second of one place");
        rows(41, NO_RELATION, NO_CONSTANT);
        rowCall("since", (d, a) -> d.since(a[0], a[1], a[2]));
        rows(42);
        rows(43);
    }

    public static void main(String[] args) throws IOException {
        document = new Document();
        changes();
        drafts();
        laying();
        looks();
        reasons();
        joins();
        wishes();
        end();
    }
}
