import java.util.ArrayList;
import java.util.Collections;
import java.util.HashMap;
import java.util.List;
import java.util.Map;
import java.util.NoSuchElementException;
import java.util.TreeMap;
import java.util.TreeSet;

/** The document's words done plainly and slowly, with none of the desk's ways, to compare the desk with. */
final class Model {
    static final int NONE = -1;

    record Row(int relation, int first, int second) implements Comparable<Row> {
        public int compareTo(Row o) {
            return relation != o.relation ? Integer.compare(relation, o.relation)
                : first != o.first ? Integer.compare(first, o.first) : Integer.compare(second, o.second);
        }
    }

    /** type 0 WITH, 1 WITHOUT, 2 COMPARES. */
    record Part(int type, int relation, int x, int y) { }

    static final class Rule {
        boolean isGroup;
        int head;
        int x;
        int y;
        List<Part> drafted = new ArrayList<>();
        int of;
        int kind;
        int sides;

        List<Part> parts() {
            List<Part> all = new ArrayList<>();
            for (Part p : drafted) if (p.type == 0) all.add(p);
            for (Part p : drafted) if (p.type != 0) all.add(p);
            return all;
        }

        List<Part> withs() {
            List<Part> all = new ArrayList<>();
            for (Part p : drafted) if (p.type == 0) all.add(p);
            return all;
        }

        TreeSet<Integer> variables() {
            TreeSet<Integer> set = new TreeSet<>();
            if (isGroup) { set.add(0); return set; }
            addVariable(set, x);
            addVariable(set, y);
            set.addAll(variablesOf(drafted));
            return set;
        }

        boolean isPlain() {
            return !isGroup && withs().size() == drafted.size();
        }
    }

    static void addVariable(TreeSet<Integer> set, int term) {
        if (term >= 0 && term <= 3) set.add(term);
    }

    static TreeSet<Integer> variablesOf(List<Part> parts) {
        TreeSet<Integer> set = new TreeSet<>();
        for (Part p : parts) { addVariable(set, p.x); addVariable(set, p.y); }
        return set;
    }

    /** A set of rows that can be looked at fast. */
    static final class Rows {
        final boolean[][][] in = new boolean[8][5][6];
        int size;

        boolean has(int relation, int first, int second) { return in[relation][first][second + 1]; }
        boolean has(Row r) { return has(r.relation, r.first, r.second); }
        boolean add(Row r) {
            if (has(r)) return false;
            in[r.relation][r.first][r.second + 1] = true;
            size++;
            return true;
        }
        void remove(Row r) {
            if (has(r)) { in[r.relation][r.first][r.second + 1] = false; size--; }
        }
        Rows copy() { Rows c = new Rows(); for (Row r : all()) c.add(r); return c; }
        List<Row> all() {
            List<Row> list = new ArrayList<>();
            for (int r = 0; r < 8; r++) list.addAll(of(r));
            return list;
        }
        List<Row> of(int relation) {
            List<Row> list = new ArrayList<>();
            for (int a = 0; a < 5; a++) for (int b = -1; b < 5; b++) if (has(relation, a, b)) list.add(new Row(relation, a, b));
            return list;
        }
        boolean same(Rows o) { return all().equals(o.all()); }
    }

    final List<Integer> places = new ArrayList<>();
    final List<Rule> rules = new ArrayList<>();
    Rule draft;
    Rows facts = new Rows();
    final List<Rows> answers = new ArrayList<>();
    Rows answer = new Rows();
    Rows other = new Rows();
    int time;
    int clung;
    int refused;
    int rounds;
    int firings;

    Model() { answers.add(new Rows()); }

    // ---- checks

    void needRelation(int relation) { if (relation < 0 || relation >= places.size()) throw new IndexOutOfBoundsException(); }
    void needRule(int rule) { if (rule < 0 || rule >= rules.size()) throw new IndexOutOfBoundsException(); }
    static boolean constant(int c) { return c >= 0 && c <= 4; }
    static boolean term(int t) { return t >= 0 && t <= 3 || t >= 10 && t <= 14; }
    void argue(boolean isWrong) { if (isWrong) throw new IllegalArgumentException(); }
    void state(boolean isWrong) { if (isWrong) throw new IllegalStateException(); }
    void needConstants(int relation, int first, int second) {
        argue(!constant(first) || (places.get(relation) == 2 ? !constant(second) : second != NONE));
    }
    void needRow(int relation, int first, int second) { needRelation(relation); needConstants(relation, first, second); }
    void needTerms(int relation, int x, int y) {
        needRelation(relation);
        argue(!term(x) || (places.get(relation) == 2 ? !term(y) : y != NONE));
    }

    // ---- meaning

    /** LAYERS by trying: the least numbers, or null for a ring. */
    int[] layersOf(List<Rule> rules) {
        int n = places.size();
        int[] layer = new int[n];
        for (int tries = 0; tries < 200; tries++) {
            boolean isChanged = false;
            for (Rule r : rules) {
                int need = r.isGroup ? layer[r.of] + 1 : 0;
                for (Part p : r.drafted) {
                    if (p.type == 0) need = Math.max(need, layer[p.relation]);
                    if (p.type == 1) need = Math.max(need, layer[p.relation] + 1);
                }
                if (layer[r.head] < need) { layer[r.head] = need; isChanged = true; }
            }
            if (!isChanged) return layer;
        }
        return null;
    }

    static int value(int[] values, int term) { return term == NONE ? NONE : term >= 10 ? term - 10 : values[term]; }

    static boolean isSo(Part p, int[] values, Rows rows) {
        int a = value(values, p.x);
        int b = value(values, p.y);
        if (p.type == 2) {
            switch (p.relation) {
                case 0: return a == b;
                case 1: return a != b;
                case 2: return a < b;
                default: return b - a == 1;
            }
        }
        return rows.has(p.relation, a, b) == (p.type == 0);
    }

    /** All values of these variables (NONE for others), by values. */
    static List<int[]> allValues(TreeSet<Integer> variables) {
        List<int[]> list = new ArrayList<>();
        list.add(new int[] {NONE, NONE, NONE, NONE});
        for (int v : variables) {
            List<int[]> longer = new ArrayList<>();
            for (int[] one : list) for (int c = 0; c < 5; c++) { int[] more = one.clone(); more[v] = c; longer.add(more); }
            list = longer;
        }
        return list;
    }

    static List<int[]> fitting(TreeSet<Integer> variables, List<Part> parts, Rows rows) {
        List<int[]> list = new ArrayList<>();
        for (int[] values : allValues(variables)) {
            boolean isSo = true;
            for (Part p : parts) isSo = isSo && isSo(p, values, rows);
            if (isSo) list.add(values);
        }
        return list;
    }

    List<int[]> matchesIn(Rule r, Rows rows) {
        if (!r.isGroup) return fitting(r.variables(), r.drafted, rows);
        List<int[]> list = new ArrayList<>();
        for (int x = 0; x < 5; x++) {
            boolean isThere = false;
            for (Row row : rows.of(r.of)) isThere |= row.first == x;
            if (isThere) list.add(new int[] {x, NONE, NONE, NONE});
        }
        return list;
    }

    Row made(Rule r, int[] values, Rows rows) {
        if (!r.isGroup) return new Row(r.head, value(values, r.x), value(values, r.y));
        int many = 0;
        int least = 99;
        int sum = 0;
        for (Row row : rows.of(r.of)) {
            if (row.first == values[0]) { many++; least = Math.min(least, row.second); sum += row.second; }
        }
        return new Row(r.head, values[0], Math.min(4, r.kind == 0 ? many : r.kind == 1 ? least : sum));
    }

    List<Row> used(Rule r, int[] values, Rows rows) {
        List<Row> list = new ArrayList<>();
        if (r.isGroup) {
            for (Row row : rows.of(r.of)) if (row.first == values[0]) list.add(row);
        } else {
            for (Part p : r.withs()) list.add(new Row(p.relation, value(values, p.x), value(values, p.y)));
        }
        return list;
    }

    static boolean isSide(Rule r, int side) { return (r.sides >> side) % 2 == 1; }

    interface Allowed { boolean allows(Row r); }

    /** Over and over, or only what is new; counts rounds and firings. */
    Rows make(Rows facts, List<Rule> rules, int side, int way, Allowed allowed) {
        int[] layer = layersOf(rules);
        Rows rows = new Rows();
        for (Row f : facts.all()) if (allowed.allows(f)) rows.add(f);
        rounds = 0;
        firings = 0;
        for (int at = 0; at <= 8; at++) {
            List<Rule> these = new ArrayList<>();
            for (Rule r : rules) if (isSide(r, side) && layer[r.head] == at) these.add(r);
            if (these.isEmpty()) continue;
            List<Row> came = null;
            while (true) {
                List<Row> news = new ArrayList<>();
                for (Rule r : these) {
                    for (int[] values : matchesIn(r, rows)) {
                        if (way == 1 && came != null) {
                            if (r.isGroup || Collections.disjoint(used(r, values, rows), came)) continue;
                        }
                        firings++;
                        Row row = made(r, values, rows);
                        if (allowed.allows(row) && !rows.has(row) && !news.contains(row)) news.add(row);
                    }
                }
                rounds++;
                for (Row row : news) rows.add(row);
                came = news;
                if (news.isEmpty()) break;
            }
        }
        return rows;
    }

    Rows make(Rows facts, int side) { return make(facts, rules, side, 0, r -> true); }

    void renew() {
        answer = make(facts, 0);
        other = make(facts, 1);
    }

    void pass() {
        renew();
        time++;
        answers.add(answer.copy());
    }

    int clungOf(Rows had, Rows now) {
        int[] layer = layersOf(rules);
        int many = 0;
        for (int at = 0; at <= 8; at++) {
            Rows look = now.copy();
            for (Row r : had.all()) if (layer[r.relation] == at) look.add(r);
            for (Row r : now.all()) if (layer[r.relation] == at && !had.has(r)) look.remove(r);
            boolean isChanged = true;
            while (isChanged) {
                isChanged = false;
                for (Row row : look.all()) {
                    if (layer[row.relation] != at || facts.has(row)) continue;
                    boolean isMade = false;
                    for (Rule r : rules) {
                        if (!isSide(r, 0) || r.head != row.relation) continue;
                        for (int[] values : matchesIn(r, look)) isMade |= made(r, values, look).equals(row);
                    }
                    if (!isMade) { look.remove(row); isChanged = true; }
                }
            }
            for (Row row : look.all()) if (layer[row.relation] == at && !now.has(row)) many++;
        }
        return many;
    }

    String text(Row r) { return r.relation + "(" + r.first + (r.second == NONE ? "" : "," + r.second) + ")"; }

    String texts(List<Row> rows) {
        List<String> list = new ArrayList<>();
        for (Row r : rows) list.add(text(r));
        return String.join(" ", list);
    }

    // ---- calls

    int relation(int n) {
        argue(n != 1 && n != 2);
        state(places.size() == 8);
        places.add(n);
        return places.size() - 1;
    }

    int tell(int relation, int first, int second) {
        needRow(relation, first, second);
        Row r = new Row(relation, first, second);
        state(facts.has(r));
        int had = answer.size;
        facts.add(r);
        pass();
        return answer.size - had;
    }

    int untell(int relation, int first, int second) {
        needRow(relation, first, second);
        Row r = new Row(relation, first, second);
        state(!facts.has(r));
        Rows had = answer;
        facts.remove(r);
        pass();
        clung = clungOf(had, answer);
        return had.size - answer.size;
    }

    int draft(int relation, int x, int y) {
        needTerms(relation, x, y);
        draft = new Rule();
        draft.head = relation;
        draft.x = x;
        draft.y = y;
        return places.get(relation);
    }

    int add(int type, int relation, int x, int y) {
        state(draft == null || draft.drafted.size() == 4);
        draft.drafted.add(new Part(type, relation, x, y));
        return draft.drafted.size();
    }

    int with(int relation, int x, int y) { needTerms(relation, x, y); return add(0, relation, x, y); }
    int without(int relation, int x, int y) { needTerms(relation, x, y); return add(1, relation, x, y); }
    int compare(int kind, int x, int y) {
        argue(kind < 0 || kind > 3 || !term(x) || !term(y));
        return add(2, kind, x, y);
    }

    boolean rings(List<Rule> more) {
        List<Rule> all = new ArrayList<>(rules);
        all.addAll(more);
        return layersOf(all) == null;
    }

    int lay(int sides) {
        argue(sides < 1 || sides > 3);
        if (draft != null) {
            argue(draft.drafted.isEmpty());
            argue(!variablesOf(draft.withs()).containsAll(draft.variables()));
        }
        state(draft == null || rules.size() == 12 || rings(List.of(draft)));
        draft.sides = sides;
        rules.add(draft);
        draft = null;
        pass();
        return rules.size() - 1;
    }

    int group(int head, int of, int kind, int sides) {
        needRelation(head);
        needRelation(of);
        argue(kind < 0 || kind > 2 || sides < 1 || sides > 3 || places.get(head) == 1 || places.get(of) == 1);
        Rule r = new Rule();
        r.isGroup = true;
        r.head = head;
        r.of = of;
        r.kind = kind;
        r.sides = sides;
        state(rules.size() == 12 || rings(List.of(r)));
        rules.add(r);
        pass();
        return rules.size() - 1;
    }

    static Rule rule(int head, int x, int y, int[]... withs) {
        Rule r = new Rule();
        r.head = head;
        r.x = x;
        r.y = y;
        r.sides = 3;
        for (int[] w : withs) r.drafted.add(new Part(0, w[0], w[1], w[2]));
        return r;
    }

    int pair(int head, int of, Rule one, Rule two) {
        needRelation(head);
        needRelation(of);
        argue(head == of || places.get(head) == 1 || places.get(of) == 1);
        state(rules.size() > 10 || rings(List.of(one, two)));
        rules.add(one);
        rules.add(two);
        pass();
        return rules.size() - 2;
    }

    int closure(int head, int of) {
        needRelation(head);
        needRelation(of);
        return pair(head, of, rule(head, 0, 1, new int[] {of, 0, 1}),
            rule(head, 0, 2, new int[] {head, 0, 1}, new int[] {of, 1, 2}));
    }

    int generation(int head, int of) {
        needRelation(head);
        needRelation(of);
        return pair(head, of, rule(head, 0, 1, new int[] {of, 2, 0}, new int[] {of, 2, 1}),
            rule(head, 0, 1, new int[] {of, 2, 0}, new int[] {head, 2, 3}, new int[] {of, 3, 1}));
    }

    int sides(int rule, int set) {
        needRule(rule);
        argue(set < 1 || set > 3);
        int had = rules.get(rule).sides;
        rules.get(rule).sides = set;
        pass();
        return had;
    }

    int scrap(int rule) {
        needRule(rule);
        rules.remove(rule);
        pass();
        return rules.size();
    }

    int knock() { return ++refused; }

    boolean holds(int relation, int first, int second) {
        needRow(relation, first, second);
        return answer.has(relation, first, second);
    }

    String rows(int relation, int side) {
        needRelation(relation);
        argue(side != 0 && side != 1);
        return texts((side == 0 ? answer : other).of(relation));
    }

    int ofRelation(int relation, int what) {
        needRelation(relation);
        argue(what < 0 || what > 4);
        switch (what) {
            case 0: return places.get(relation);
            case 1: return facts.of(relation).size();
            case 2: return answer.of(relation).size();
            case 3: return other.of(relation).size();
            default: return layersOf(rules)[relation];
        }
    }

    static String termText(int t) { return t >= 10 ? "" + (t - 10) : "v" + t; }

    static String atom(int relation, int x, int y) {
        return relation + "(" + termText(x) + (y == NONE ? "" : "," + termText(y)) + ")";
    }

    String rule(int rule) {
        needRule(rule);
        Rule r = rules.get(rule);
        if (r.isGroup) return r.head + ":-g" + r.kind + " " + r.of + "/" + r.sides;
        List<String> parts = new ArrayList<>();
        for (Part p : r.parts()) {
            parts.add(p.type == 2 ? termText(p.x) + "=#<+".charAt(p.relation) + termText(p.y)
                : (p.type == 1 ? "!" : "") + atom(p.relation, p.x, p.y));
        }
        return atom(r.head, r.x, r.y) + ":-" + String.join(",", parts) + "/" + r.sides;
    }

    int count(int what) {
        argue(what < 0 || what > 9);
        int layers = 0;
        for (int l : layersOf(rules)) layers = Math.max(layers, l + 1);
        return new int[] {places.size(), facts.size, answer.size, rules.size(), layers, time, clung,
            draft == null ? NONE : draft.drafted.size(), other.size, refused}[what];
    }

    int work(int way, int what) {
        argue(way < 0 || way > 1 || what < 0 || what > 1);
        make(facts, rules, 0, way, r -> true);
        return what == 0 ? rounds : firings;
    }

    void needPattern(int relation, int first, int second) {
        needRelation(relation);
        argue(first < NONE || first > 4 || second < NONE || second > 4 || places.get(relation) == 1 && second != NONE);
    }

    static boolean fits(Row r, Row pattern) {
        return r.relation == pattern.relation && (pattern.first == NONE || pattern.first == r.first)
            && (pattern.second == NONE || pattern.second == r.second);
    }

    String question(int relation, int first, int second) {
        needPattern(relation, first, second);
        List<Row> list = new ArrayList<>();
        for (Row r : answer.of(relation)) if (fits(r, new Row(relation, first, second))) list.add(r);
        return texts(list);
    }

    TreeSet<Row> demandsOf(Row question) {
        TreeSet<Row> set = new TreeSet<>();
        List<Row> open = new ArrayList<>();
        open.add(question);
        while (!open.isEmpty()) {
            Row d = open.remove(open.size() - 1);
            if (!set.add(d)) continue;
            for (Rule r : rules) {
                if (!isSide(r, 0) || r.head != d.relation) continue;
                if (r.isGroup) { open.add(new Row(r.of, d.first, NONE)); continue; }
                int[] known = {NONE, NONE, NONE, NONE};
                if (know(known, r.x, d.first) && know(known, r.y, d.second)) goOn(r.parts(), 0, known, open);
            }
        }
        return set;
    }

    /** Puts a constant for a term, if that can be. */
    static boolean know(int[] known, int term, int constant) {
        if (constant == NONE || term == NONE) return true;
        if (term >= 10) return term - 10 == constant;
        if (known[term] != NONE) return known[term] == constant;
        known[term] = constant;
        return true;
    }

    void goOn(List<Part> parts, int k, int[] known, List<Row> open) {
        if (k == parts.size()) return;
        Part p = parts.get(k);
        if (p.type == 2) {
            if (isSo(p, known, answer)) goOn(parts, k + 1, known, open);
            return;
        }
        Row pattern = new Row(p.relation, value(known, p.x), value(known, p.y));
        open.add(pattern);
        if (p.type == 1) {
            if (!answer.has(pattern)) goOn(parts, k + 1, known, open);
            return;
        }
        for (Row r : answer.of(p.relation)) {
            int[] more = known.clone();
            if (know(more, p.x, r.first) && know(more, p.y, r.second)) goOn(parts, k + 1, more, open);
        }
    }

    int demands(int relation, int first, int second, int what) {
        needPattern(relation, first, second);
        argue(what != 0 && what != 1);
        TreeSet<Row> set = demandsOf(new Row(relation, first, second));
        if (what == 0) return set.size();
        int many = 0;
        for (Row r : answer.all()) {
            boolean isFitting = false;
            for (Row d : set) isFitting |= fits(r, d);
            many += isFitting ? 1 : 0;
        }
        return many;
    }

    // ---- reasons

    record Reason(int rule, int[] values) { }

    List<Reason> reasonsOf(Row row) {
        List<Reason> list = new ArrayList<>();
        if (!answer.has(row)) return list;
        if (facts.has(row)) list.add(new Reason(NONE, null));
        for (int i = 0; i < rules.size(); i++) {
            Rule r = rules.get(i);
            if (!isSide(r, 0) || r.head != row.relation) continue;
            for (int[] values : matchesIn(r, answer)) {
                if (made(r, values, answer).equals(row)) list.add(new Reason(i, values));
            }
        }
        return list;
    }

    /** Heights lowered again and again from a number that is too great. */
    Map<Row, Integer> heights() {
        Map<Row, Integer> tall = new HashMap<>();
        Map<Row, List<Reason>> all = new HashMap<>();
        for (Row r : answer.all()) {
            tall.put(r, facts.has(r) ? 0 : 1000);
            all.put(r, reasonsOf(r));
        }
        boolean isChanged = true;
        while (isChanged) {
            isChanged = false;
            for (Row r : answer.all()) {
                for (Reason why : all.get(r)) {
                    int h = heightBy(why, tall);
                    if (h < tall.get(r)) { tall.put(r, h); isChanged = true; }
                }
            }
        }
        return tall;
    }

    int heightBy(Reason why, Map<Row, Integer> tall) {
        if (why.rule == NONE) return 0;
        int most = 0;
        for (Row u : used(rules.get(why.rule), why.values, answer)) most = Math.max(most, tall.get(u));
        return most + 1;
    }

    Reason best(Row r, Map<Row, Integer> tall) {
        for (Reason why : reasonsOf(r)) if (heightBy(why, tall) == tall.get(r)) return why;
        throw new NoSuchElementException();
    }

    String text(Reason why) {
        if (why.rule == NONE) return "told";
        StringBuilder s = new StringBuilder("r" + why.rule);
        for (int v : rules.get(why.rule).variables()) s.append(" ").append(why.values[v]);
        return s.toString();
    }

    List<Row> proofOf(Row row, Map<Row, Integer> tall) {
        TreeSet<Row> set = new TreeSet<>();
        List<Row> open = new ArrayList<>();
        if (answer.has(row)) open.add(row);
        while (!open.isEmpty()) {
            Row r = open.remove(0);
            if (!set.add(r)) continue;
            Reason why = best(r, tall);
            if (why.rule != NONE) open.addAll(used(rules.get(why.rule), why.values, answer));
        }
        List<Row> list = new ArrayList<>(set);
        list.sort((a, b) -> tall.get(a).equals(tall.get(b)) ? a.compareTo(b) : tall.get(a) - tall.get(b));
        return list;
    }

    int height(int relation, int first, int second) {
        needRow(relation, first, second);
        Integer h = heights().get(new Row(relation, first, second));
        return h == null ? NONE : h;
    }

    int reasons(int relation, int first, int second) {
        needRow(relation, first, second);
        return reasonsOf(new Row(relation, first, second)).size();
    }

    String reason(int relation, int first, int second, int k) {
        needRow(relation, first, second);
        Row row = new Row(relation, first, second);
        List<Reason> all = reasonsOf(row);
        state(all.isEmpty() || k < NONE || k >= all.size());
        return text(k == NONE ? best(row, heights()) : all.get(k));
    }

    int proof(int relation, int first, int second) {
        needRow(relation, first, second);
        return proofOf(new Row(relation, first, second), heights()).size();
    }

    String line(int relation, int first, int second, int k) {
        needRow(relation, first, second);
        Map<Row, Integer> tall = heights();
        List<Row> list = proofOf(new Row(relation, first, second), tall);
        state(k < 0 || k >= list.size());
        return text(list.get(k)) + " " + text(best(list.get(k), tall));
    }

    String whyNot(int rule, int first, int second) {
        needRule(rule);
        Rule r = rules.get(rule);
        needConstants(r.head, first, second);
        state(r.isGroup);
        int far = -1;
        int[] where = null;
        for (int[] values : allValues(r.variables())) {
            if (value(values, r.x) != first || value(values, r.y) != second) continue;
            int k = 0;
            while (k < r.parts().size() && isSo(r.parts().get(k), values, answer)) k++;
            if (k > far) { far = k; where = values; }
        }
        if (where == null) return "head";
        if (far == r.parts().size()) return "so";
        StringBuilder s = new StringBuilder("" + far);
        for (int v : r.variables()) s.append(" ").append(where[v]);
        return s.toString();
    }

    // ---- joins and wishes

    List<Integer> planOf(Rule r) {
        List<Part> withs = r.withs();
        List<Integer> plan = new ArrayList<>();
        TreeSet<Integer> known = new TreeSet<>();
        while (plan.size() < withs.size()) {
            int best = NONE;
            int[] bestKey = null;
            for (int i = 0; i < withs.size(); i++) {
                if (plan.contains(i)) continue;
                Part p = withs.get(i);
                int places = 0;
                for (int t : new int[] {p.x, p.y}) if (t >= 10 || known.contains(t)) places++;
                int[] key = {-places, answer.of(p.relation).size(), i};
                if (best == NONE || java.util.Arrays.compare(key, bestKey) < 0) { best = i; bestKey = key; }
            }
            plan.add(best);
            known.addAll(variablesOf(List.of(withs.get(best))));
        }
        return plan;
    }

    int visits(int rule, boolean isPlanned) {
        needRule(rule);
        Rule r = rules.get(rule);
        state(r.isGroup);
        List<Part> withs = r.withs();
        List<Integer> order = new ArrayList<>();
        for (int i = 0; i < withs.size(); i++) order.add(i);
        if (isPlanned) order = planOf(r);
        int sum = 0;
        List<Part> taken = new ArrayList<>();
        for (int i : order) {
            taken.add(withs.get(i));
            sum += fitting(variablesOf(taken), taken, answer).size();
        }
        return sum;
    }

    String plan(int rule) {
        needRule(rule);
        state(rules.get(rule).isGroup);
        StringBuilder s = new StringBuilder();
        for (int i : planOf(rules.get(rule))) s.append(i);
        return s.toString();
    }

    int matches(int rule) {
        needRule(rule);
        return matchesIn(rules.get(rule), answer).size();
    }

    int nearest(int relation, int from, int to) {
        needRelation(relation);
        argue(places.get(relation) == 1 || !constant(from) || !constant(to));
        int[] far = {99, 99, 99, 99, 99};
        far[from] = 0;
        for (int i = 0; i < 6; i++) {
            for (Row r : answer.of(relation)) far[r.second] = Math.min(far[r.second], far[r.first] + 1);
        }
        return far[to] == 99 ? NONE : far[to];
    }

    static int put(TreeMap<Integer, Integer> puts, int term) { return term >= 0 && term <= 3 ? puts.get(term) : term; }

    /** All ways to put variables as terms of r, tried in their order; the first that contains it, or null. */
    TreeMap<Integer, Integer> witnessOf(Rule r, Rule s) {
        if (r.head != s.head) return null;
        TreeSet<Integer> terms = new TreeSet<>();
        for (int t : new int[] {r.x, r.y}) if (t != NONE) terms.add(t);
        for (Part p : r.drafted) for (int t : new int[] {p.x, p.y}) if (t != NONE) terms.add(t);
        List<TreeMap<Integer, Integer>> ways = new ArrayList<>();
        ways.add(new TreeMap<>());
        for (int v : s.variables()) {
            List<TreeMap<Integer, Integer>> longer = new ArrayList<>();
            for (TreeMap<Integer, Integer> way : ways) {
                for (int t : terms) { TreeMap<Integer, Integer> more = new TreeMap<>(way); more.put(v, t); longer.add(more); }
            }
            ways = longer;
        }
        for (TreeMap<Integer, Integer> way : ways) {
            boolean isGood = put(way, s.x) == r.x && put(way, s.y) == r.y;
            for (Part p : s.drafted) {
                isGood = isGood && r.drafted.contains(new Part(0, p.relation, put(way, p.x), put(way, p.y)));
            }
            if (isGood) return way;
        }
        return null;
    }

    void needPlain(int rule, int other) {
        needRule(rule);
        needRule(other);
        state(!rules.get(rule).isPlain() || !rules.get(other).isPlain());
    }

    boolean contained(int rule, int other) {
        needPlain(rule, other);
        return witnessOf(rules.get(rule), rules.get(other)) != null;
    }

    String witness(int rule, int other) {
        needPlain(rule, other);
        TreeMap<Integer, Integer> way = witnessOf(rules.get(rule), rules.get(other));
        if (way == null) return "none";
        List<String> list = new ArrayList<>();
        for (int t : way.values()) list.add("" + t);
        return String.join(" ", list);
    }

    boolean needless(int rule) {
        needRule(rule);
        Rule r = rules.get(rule);
        if (r.isGroup) return false;
        TreeSet<Row> rows = new TreeSet<>();
        for (Part p : r.withs()) rows.add(new Row(p.relation, p.x, p.y));
        int had = NONE;
        while (had != rows.size()) {
            had = rows.size();
            for (int i = 0; i < rules.size(); i++) {
                Rule o = rules.get(i);
                if (i == rule || !o.isPlain() || !isSide(o, 0)) continue;
                List<Row> news = new ArrayList<>();
                fireFrozen(o, 0, new TreeMap<>(), new ArrayList<>(rows), news);
                rows.addAll(news);
            }
        }
        return rows.contains(new Row(r.head, r.x, r.y));
    }

    void fireFrozen(Rule o, int k, TreeMap<Integer, Integer> puts, List<Row> rows, List<Row> news) {
        if (k == o.drafted.size()) {
            news.add(new Row(o.head, put(puts, o.x), put(puts, o.y)));
            return;
        }
        Part p = o.drafted.get(k);
        for (Row r : rows) {
            if (r.relation != p.relation) continue;
            TreeMap<Integer, Integer> more = new TreeMap<>(puts);
            if (meet(more, p.x, r.first) && meet(more, p.y, r.second)) fireFrozen(o, k + 1, more, rows, news);
        }
    }

    static boolean meet(TreeMap<Integer, Integer> puts, int term, int frozen) {
        if (term < 0 || term > 3) return term == frozen;
        if (puts.containsKey(term)) return puts.get(term) == frozen;
        puts.put(term, frozen);
        return true;
    }

    List<Row> possible(int relation, int size) {
        List<Row> list = new ArrayList<>();
        for (int a = 0; a < size; a++) {
            if (places.get(relation) == 1) list.add(new Row(relation, a, NONE));
            else for (int b = 0; b < size; b++) list.add(new Row(relation, a, b));
        }
        return list;
    }

    String wish(int wished, int relation, int first, int second) {
        needRelation(wished);
        needRow(relation, first, second);
        Row goal = new Row(relation, first, second);
        if (answer.has(goal)) return "";
        List<Row> free = new ArrayList<>();
        for (Row r : possible(wished, 5)) if (!facts.has(r)) free.add(r);
        for (Row r : free) if (isReached(List.of(r), goal)) return text(r);
        for (int i = 0; i < free.size(); i++) {
            for (int j = i + 1; j < free.size(); j++) {
                if (isReached(List.of(free.get(i), free.get(j)), goal)) return text(free.get(i)) + " " + text(free.get(j));
            }
        }
        return "none";
    }

    boolean isReached(List<Row> more, Row goal) {
        Rows told = facts.copy();
        for (Row r : more) told.add(r);
        return make(told, 0).has(goal);
    }

    int differ(int given, int relation, int size) {
        needRelation(given);
        needRelation(relation);
        argue(size < 1 || size > 3);
        List<Row> rows = possible(given, size);
        int best = NONE;
        for (int set = 0; set < 1 << rows.size(); set++) {
            if (best != NONE && Integer.bitCount(best) <= Integer.bitCount(set)) continue;
            Rows told = new Rows();
            for (int k = 0; k < rows.size(); k++) if ((set >> k) % 2 == 1) told.add(rows.get(k));
            if (!make(told, 0).of(relation).equals(make(told, 1).of(relation))) best = set;
        }
        return best;
    }

    int would(int relation, int first, int second, boolean isTold) {
        needRow(relation, first, second);
        Rows told = facts.copy();
        Row row = new Row(relation, first, second);
        if (isTold) told.add(row);
        else told.remove(row);
        return make(told, 0).size - answer.size;
    }

    boolean held(int at, int relation, int first, int second) {
        needRelation(relation);
        if (at < 0 || at > time || at < time - 29) throw new IndexOutOfBoundsException();
        needConstants(relation, first, second);
        return answers.get(at).has(relation, first, second);
    }

    int since(int relation, int first, int second) {
        needRow(relation, first, second);
        int from = NONE;
        for (int t = time; t >= 0 && t >= time - 29 && answers.get(t).has(relation, first, second); t--) from = t;
        return from;
    }

    boolean isSound() {
        int all = 0;
        for (int i = 0; i < rules.size(); i++) if (isSide(rules.get(i), 0)) all += matches(i);
        boolean isSound = make(facts, rules, 0, 0, r -> true).same(answer);
        isSound &= make(facts, rules, 0, 1, r -> true).same(answer) && firings == all;
        for (int relation = 0; relation < places.size(); relation++) {
            TreeSet<Row> asked = demandsOf(new Row(relation, NONE, NONE));
            Rows back = make(facts, rules, 0, 0, r -> asked.stream().anyMatch(d -> fits(r, d)));
            isSound &= back.of(relation).equals(answer.of(relation));
        }
        Map<Row, Integer> tall = heights();
        for (Row r : answer.all()) {
            isSound &= !reasonsOf(r).isEmpty();
            for (Row p : proofOf(r, tall)) {
                Reason why = best(p, tall);
                if (why.rule == NONE) continue;
                for (Row u : used(rules.get(why.rule), why.values, answer)) isSound &= tall.get(u) < tall.get(p);
            }
        }
        for (int i = 0; i < rules.size(); i++) {
            if (!isSide(rules.get(i), 0)) continue;
            for (int[] values : matchesIn(rules.get(i), answer)) isSound &= answer.has(made(rules.get(i), values, answer));
            if (needless(i)) {
                List<Rule> less = new ArrayList<>(rules);
                less.remove(i);
                isSound &= make(facts, less, 0, 0, r -> true).same(answer);
            }
        }
        return isSound;
    }

    long digest() {
        long d = 6104;
        for (int what = 0; what <= 9; what++) d = d * 31 + count(what);
        Map<Row, Integer> tall = heights();
        for (int relation = 0; relation < places.size(); relation++) {
            for (int what = 0; what <= 4; what++) d = d * 31 + ofRelation(relation, what);
            for (Row r : answer.of(relation)) {
                d = d * 31 + 5 * r.first + Math.max(r.second, 0);
                d = d * 31 + tall.get(r);
                d = d * 31 + reasonsOf(r).size();
            }
        }
        for (int i = 0; i < rules.size(); i++) {
            d = d * 31 + rule(i).length();
            d = d * 31 + matches(i);
        }
        for (int i = 0; i < 4; i++) d = d * 31 + work(i / 2, i % 2);
        return d * 31 + (isSound() ? 1 : 0);
    }
}
