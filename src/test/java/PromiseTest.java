/** Each promise of the document with ordinary inputs, its edges and wrong inputs; the answers are found by hand. */
public final class PromiseTest extends Checks {
    private static void promise(int number) {
        at("promise " + number);
    }

    /** A desk with so many relations of two places, and one of one place behind them. */
    private static Derivationdesk desk(int many) {
        Derivationdesk d = new Derivationdesk();
        for (int i = 0; i < many; i++) d.relation(2);
        d.relation(1);
        return d;
    }

    /** Edges 0-1-2-3-1 in 0, their closure in 1, nothing in 2, marks in 3 (one place). */
    private static Derivationdesk paths() {
        Derivationdesk d = desk(3);
        d.tell(0, 0, 1);
        d.tell(0, 1, 2);
        d.tell(0, 2, 3);
        d.tell(0, 3, 1);
        d.closure(1, 0);
        return d;
    }

    private static void draft(Derivationdesk d, int relation, int x, int y, int[]... withs) {
        d.draft(relation, x, y);
        for (int[] w : withs) d.with(w[0], w[1], w[2]);
    }

    private static int lay(Derivationdesk d, int sides, int relation, int x, int y, int[]... withs) {
        draft(d, relation, x, y, withs);
        return d.lay(sides);
    }

    private static int[] w(int relation, int x, int y) { return new int[] {relation, x, y}; }

    private static void fillRules(Derivationdesk d) {
        while (d.count(3) < 12) lay(d, 3, 2, 0, 1, w(0, 0, 1));
    }

    private static void wrongRow(Derivationdesk d, int two, int one, RowCall call) {
        thrown(d, INDEX, "relation -1", () -> call.answer(-1, 9, 9));
        thrown(d, INDEX, "relation too great", () -> call.answer(d.count(0), 9, 9));
        thrown(d, INDEX, "relation 2^31 - 1", () -> call.answer(Integer.MAX_VALUE, 0, 0));
        thrown(d, INDEX, "relation -2^31", () -> call.answer(Integer.MIN_VALUE, 0, 0));
        thrown(d, ARGUMENT, "first -1", () -> call.answer(two, -1, 0));
        thrown(d, ARGUMENT, "first 5", () -> call.answer(two, 5, 0));
        thrown(d, ARGUMENT, "second NONE of two places", () -> call.answer(two, 0, -1));
        thrown(d, ARGUMENT, "second 5", () -> call.answer(two, 0, 5));
        thrown(d, ARGUMENT, "second 2^31 - 1", () -> call.answer(two, 0, Integer.MAX_VALUE));
        thrown(d, ARGUMENT, "second 0 of one place", () -> call.answer(one, 0, 0));
        thrown(d, ARGUMENT, "second -2 of one place", () -> call.answer(one, 0, -2));
        thrown(d, ARGUMENT, "first 5 of one place", () -> call.answer(one, 5, -1));
        thrown(d, ARGUMENT, "first -2^31 of one place", () -> call.answer(one, Integer.MIN_VALUE, -1));
    }

    private interface RowCall { Object answer(int relation, int first, int second); }

    private static void newObject() {
        promise(1);
        Derivationdesk d = new Derivationdesk();
        int[] empty = {0, 0, 0, 0, 0, 0, 0, -1, 0, 0};
        for (int what = 0; what <= 9; what++) due("count " + what, d.count(what), empty[what]);
        due("isSound", d.isSound(), true);
        long n = 6104;
        for (int v : new int[] {0, 0, 0, 0, 0, 0, 0, -1, 0, 0, 0, 0, 0, 0, 1}) n = n * 31 + v;
        due("digest", d.digest(), n);
    }

    private static void relation() {
        promise(2);
        Derivationdesk d = new Derivationdesk();
        due("relation 2", d.relation(2), 0);
        due("relation 1", d.relation(1), 1);
        for (int n : new int[] {0, 3, -1, Integer.MAX_VALUE, Integer.MIN_VALUE}) thrown(d, ARGUMENT, "relation " + n, () -> d.relation(n));
        for (int i = 2; i < 8; i++) due("relation", d.relation(1 + i % 2), i);
        thrown(d, STATE, "a ninth", () -> d.relation(2));
        thrown(d, STATE, "a ninth", () -> d.relation(1));
        thrown(d, ARGUMENT, "a ninth of 3 places", () -> d.relation(3));
        due("count", d.count(0), 8);
        due("TIME stays", d.count(5), 0);
    }

    private static void tell() {
        promise(3);
        Derivationdesk d = desk(3);
        due("the first fact", d.tell(0, 0, 1), 1);
        d.closure(1, 0);
        due("with what follows", d.tell(0, 1, 2), 3);
        due("of one place", d.tell(3, 4, -1), 1);
        due("a row that follows already", d.tell(1, 0, 2), 0);
        thrown(d, STATE, "told again", () -> d.tell(0, 0, 1));
        thrown(d, STATE, "told again", () -> d.tell(3, 4, -1));
        wrongRow(d, 0, 3, (r, a, b) -> d.tell(r, a, b));
        d.draft(2, 0, 1);
        d.with(0, 0, 1);
        d.without(1, 1, 0);
        d.lay(1);
        due("2(0,1) 2(1,2)", d.rows(2, 0), "2(0,1) 2(1,2)");
        due("a fact that makes rows go", d.tell(1, 2, 1), -1 + 1 + 1);
        due("rows", d.rows(2, 0), "2(0,1)");
        due("corner", d.tell(0, 4, 4), 1 + 1);
    }

    private static void untell() {
        promise(4);
        Derivationdesk d = paths();
        due("rows less", d.untell(0, 0, 1), 1 + 3);
        due("CLUNG: 1(0,1), 1(0,2) and 1(0,3) hold each other round the ring", d.count(6), 3);
        due("rows less in the ring", d.untell(0, 3, 1), 1 + 6);
        due("CLUNG", d.count(6), 0);
        thrown(d, STATE, "not told", () -> d.untell(0, 3, 1));
        thrown(d, STATE, "in the answer, but not told", () -> d.untell(1, 1, 2));
        thrown(d, STATE, "of one place", () -> d.untell(3, 0, -1));
        wrongRow(d, 0, 3, (r, a, b) -> d.untell(r, a, b));
        d.tell(3, 2, -1);
        due("of one place", d.untell(3, 2, -1), 1);

        Derivationdesk c = desk(2);
        lay(c, 3, 1, 0, 1, w(0, 0, 1));
        lay(c, 3, 1, 1, 0, w(1, 0, 1));
        c.tell(0, 0, 1);
        due("rows", c.rows(1, 0), "1(0,1) 1(1,0)");
        due("two rows hold each other", c.untell(0, 0, 1), 3);
        due("CLUNG", c.count(6), 2);
        c.tell(2, 0, -1);
        due("CLUNG stays", c.count(6), 2);
        c.untell(2, 0, -1);
        due("CLUNG is told anew", c.count(6), 0);
        c.tell(0, 3, 4);
        c.tell(1, 4, 3);
        c.untell(0, 3, 4);
        due("a fact holds them", c.rows(1, 0), "1(3,4) 1(4,3)");
        due("CLUNG", c.count(6), 0);

        Derivationdesk m = desk(3);
        m.tell(0, 0, 0);
        m.draft(1, 10, 10);
        m.without(0, 10, 10);
        m.lay(3);
        due("a row comes when one goes", m.untell(0, 0, 0), 0);
        due("rows", m.rows(1, 0), "1(0,0)");
        m.tell(0, 0, 0);
        lay(m, 3, 2, 0, 0, w(0, 0, 0));
        m.draft(2, 11, 11);
        m.without(0, 10, 10);
        m.lay(3);
        m.draft(2, 12, 12);
        m.without(0, 10, 10);
        m.lay(3);
        due("below 0: more", m.untell(0, 0, 0), 2 - 3);
    }

    private static void wrongTerms(Derivationdesk d, int two, int one, RowCall call) {
        thrown(d, INDEX, "relation -1", () -> call.answer(-1, 99, 99));
        thrown(d, INDEX, "relation too great", () -> call.answer(d.count(0), 99, 99));
        for (int t : new int[] {-1, 4, 9, 15, -2, Integer.MAX_VALUE, Integer.MIN_VALUE}) {
            thrown(d, ARGUMENT, "x " + t, () -> call.answer(two, t, 0));
            thrown(d, ARGUMENT, "y " + t, () -> call.answer(two, 0, t));
            thrown(d, ARGUMENT, "x " + t + " of one place", () -> call.answer(one, t, -1));
        }
        thrown(d, ARGUMENT, "y 0 of one place", () -> call.answer(one, 0, 0));
        thrown(d, ARGUMENT, "y 10 of one place", () -> call.answer(one, 0, 10));
        thrown(d, ARGUMENT, "y -2 of one place", () -> call.answer(one, 0, -2));
    }

    private static void drafts() {
        promise(5);
        Derivationdesk d = desk(2);
        due("two places", d.draft(0, 0, 14), 2);
        due("parts", d.count(7), 0);
        due("one place", d.draft(2, 3, -1), 1);
        d.with(2, 3, -1);
        due("parts", d.count(7), 1);
        wrongTerms(d, 0, 2, (r, x, y) -> d.draft(r, x, y));
        due("another one is gone", d.draft(1, 10, 3), 2);
        due("parts", d.count(7), 0);
        d.with(0, 3, 3);
        due("lay", d.lay(3), 0);
        due("text", d.rule(0), "1(0,v3):-0(v3,v3)/3");
        due("TIME", d.count(5), 1);

        promise(6);
        Derivationdesk e = desk(2);
        thrown(e, STATE, "no draft", () -> e.with(0, 0, 1));
        thrown(e, ARGUMENT, "no draft and no term", () -> e.with(0, 0, 4));
        thrown(e, INDEX, "no draft and no relation", () -> e.with(3, 0, 4));
        e.draft(0, 0, 1);
        due("one part", e.with(0, 0, 1), 1);
        wrongTerms(e, 0, 2, (r, x, y) -> e.with(r, x, y));
        e.without(2, 0, -1);
        due("a with part behind another", e.with(1, 1, 14), 3);
        due("of one place", e.with(2, 10, -1), 4);
        thrown(e, STATE, "a fifth part", () -> e.with(0, 0, 1));
        thrown(e, ARGUMENT, "a fifth part and no term", () -> e.with(0, 5, 1));
        e.draft(1, 0, 1);
        e.compare(2, 0, 1);
        e.without(2, 0, -1);
        e.with(0, 0, 1);
        e.with(2, 0, -1);
        e.lay(1);
        due("with parts ahead", e.rule(0), "1(v0,v1):-0(v0,v1),2(v0),v0<v1,!2(v0)/1");

        promise(7);
        Derivationdesk f = desk(2);
        thrown(f, STATE, "no draft", () -> f.without(0, 0, 1));
        f.draft(1, 0, 0);
        due("one part", f.without(0, 0, 13), 1);
        wrongTerms(f, 0, 2, (r, x, y) -> f.without(r, x, y));
        due("two parts", f.without(2, 0, -1), 2);
        due("three parts", f.with(0, 0, 0), 3);
        due("four parts", f.without(0, 0, 0), 4);
        thrown(f, STATE, "a fifth part", () -> f.without(0, 0, 1));
        thrown(f, INDEX, "a fifth part and no relation", () -> f.without(9, 0, 1));
        f.lay(2);
        due("text", f.rule(0), "1(v0,v0):-0(v0,v0),!0(v0,3),!2(v0),!0(v0,v0)/2");

        promise(8);
        Derivationdesk g = desk(2);
        thrown(g, STATE, "no draft", () -> g.compare(0, 0, 1));
        g.draft(1, 0, 1);
        due("one part", g.compare(0, 0, 10), 1);
        for (int k : new int[] {-1, 4, Integer.MAX_VALUE, Integer.MIN_VALUE}) thrown(g, ARGUMENT, "kind " + k, () -> g.compare(k, 0, 1));
        for (int t : new int[] {-1, 4, 9, 15, Integer.MAX_VALUE, Integer.MIN_VALUE}) {
            thrown(g, ARGUMENT, "x " + t, () -> g.compare(0, t, 1));
            thrown(g, ARGUMENT, "y " + t, () -> g.compare(0, 1, t));
        }
        due("two parts", g.compare(1, 0, 1), 2);
        due("three parts", g.compare(3, 14, 1), 3);
        due("four parts", g.with(0, 0, 1), 4);
        thrown(g, STATE, "a fifth part", () -> g.compare(0, 0, 1));
        thrown(g, ARGUMENT, "a fifth part of kind 4", () -> g.compare(4, 0, 1));
        g.lay(3);
        due("text", g.rule(0), "1(v0,v1):-0(v0,v1),v0=0,v0#v1,4+v1/3");
        Derivationdesk h = desk(5);
        for (int a = 0; a < 5; a++) for (int b = 0; b < 5; b++) h.tell(0, a, b);
        for (int k = 0; k < 4; k++) {
            draft(h, 1 + k, 0, 1, w(0, 0, 1));
            h.compare(k, 0, 1);
            h.lay(1);
        }
        due("the same", h.rows(1, 0), "1(0,0) 1(1,1) 1(2,2) 1(3,3) 1(4,4)");
        due("unlike", h.ofRelation(2, 2), 20);
        due("less", h.rows(3, 0), "3(0,1) 3(0,2) 3(0,3) 3(0,4) 3(1,2) 3(1,3) 3(1,4) 3(2,3) 3(2,4) 3(3,4)");
        due("1 less", h.rows(4, 0), "4(0,1) 4(1,2) 4(2,3) 4(3,4)");
    }

    private static void lays() {
        promise(9);
        Derivationdesk d = desk(3);
        thrown(d, STATE, "no draft", () -> d.lay(3));
        for (int s : new int[] {0, 4, -1, Integer.MAX_VALUE, Integer.MIN_VALUE}) thrown(d, ARGUMENT, "no draft, sides " + s, () -> d.lay(s));
        d.draft(1, 0, 1);
        thrown(d, ARGUMENT, "no part", () -> d.lay(3));
        d.with(0, 0, 2);
        thrown(d, ARGUMENT, "not safe in its head", () -> d.lay(3));
        d.with(0, 2, 1);
        due("lay", d.lay(3), 0);
        thrown(d, STATE, "there is no draft then", () -> d.lay(3));
        draft(d, 1, 0, 1, w(0, 0, 1));
        d.without(2, 2, 0);
        thrown(d, ARGUMENT, "not safe in a without part", () -> d.lay(3));
        draft(d, 1, 0, 1, w(0, 0, 1));
        d.compare(0, 0, 3);
        thrown(d, ARGUMENT, "not safe in a compare part", () -> d.lay(3));
        draft(d, 0, 0, 1, w(0, 0, 1));
        d.without(1, 0, 1);
        thrown(d, STATE, "a ring through a with part", () -> d.lay(3));
        draft(d, 1, 0, 1, w(0, 0, 1));
        d.without(1, 1, 0);
        thrown(d, STATE, "a ring on itself", () -> d.lay(1));
        due("the draft is still there", d.count(7), 2);
        draft(d, 0, 0, 1, w(1, 0, 1));
        due("a circle of with parts is no ring", d.lay(2), 1);
        draft(d, 2, 0, 1, w(0, 0, 1));
        d.without(1, 0, 1);
        d.compare(2, 0, 1);
        due("layers", d.lay(1), 2);
        due("LAYER", d.ofRelation(2, 4), 1);
        draft(d, 1, 0, 0, w(2, 0, 0));
        thrown(d, STATE, "a ring through rules of any side", () -> d.lay(2));
        while (d.count(3) < 12) lay(d, 1, 2, 0, 1, w(0, 0, 1));
        draft(d, 2, 0, 1, w(0, 0, 1));
        thrown(d, STATE, "a thirteenth rule", () -> d.lay(3));
        thrown(d, ARGUMENT, "a thirteenth rule of no side", () -> d.lay(0));
        draft(d, 2, 0, 1);
        thrown(d, ARGUMENT, "a thirteenth rule without a part", () -> d.lay(3));
        Derivationdesk c = desk(1);
        c.draft(0, 10, 14);
        c.without(1, 12, -1);
        due("no variable", c.lay(3), 0);
        due("rows", c.rows(0, 0), "0(0,4)");
        c.tell(1, 2, -1);
        due("rows", c.rows(0, 0), "");
    }

    private static void groups() {
        promise(10);
        Derivationdesk d = desk(5);
        d.tell(0, 0, 2);
        d.tell(0, 0, 1);
        d.tell(0, 3, 3);
        d.tell(0, 3, 4);
        due("how many", d.group(1, 0, 0, 3), 0);
        due("the least", d.group(2, 0, 1, 1), 1);
        due("the sum", d.group(3, 0, 2, 2), 2);
        due("rows", d.rows(1, 0), "1(0,2) 1(3,2)");
        due("rows", d.rows(2, 0), "2(0,1) 2(3,3)");
        due("rows", d.rows(3, 0), "");
        due("rows of side 1, but 4 if greater", d.rows(3, 1), "3(0,3) 3(3,4)");
        due("rows of side 1", d.rows(2, 1), "");
        due("LAYER", d.ofRelation(1, 4), 1);
        for (int b = 0; b < 5; b++) d.tell(4, 2, b);
        d.scrap(0);
        d.group(1, 4, 0, 1);
        due("4, if greater", d.rows(1, 0), "1(2,4)");
        thrown(d, INDEX, "no head", () -> d.group(6, 0, 9, 9));
        thrown(d, INDEX, "no of", () -> d.group(0, -1, 9, 9));
        thrown(d, ARGUMENT, "kind 3", () -> d.group(1, 0, 3, 3));
        thrown(d, ARGUMENT, "kind -1", () -> d.group(1, 0, -1, 3));
        thrown(d, ARGUMENT, "sides 0", () -> d.group(1, 0, 0, 0));
        thrown(d, ARGUMENT, "sides 4", () -> d.group(1, 0, 0, 4));
        thrown(d, ARGUMENT, "a head of one place", () -> d.group(5, 0, 0, 3));
        thrown(d, ARGUMENT, "of one place", () -> d.group(1, 5, 0, 3));
        thrown(d, STATE, "a ring on itself", () -> d.group(1, 1, 0, 3));
        thrown(d, STATE, "a ring", () -> d.group(0, 2, 0, 3));
        d.draft(3, 0, 1);
        d.with(0, 0, 1);
        d.group(2, 0, 0, 3);
        due("the draft stays", d.count(7), 1);
        fillRules(d);
        thrown(d, STATE, "a thirteenth rule", () -> d.group(1, 0, 0, 3));
        thrown(d, ARGUMENT, "a thirteenth rule of kind 3", () -> d.group(1, 0, 3, 3));
    }

    private static void pairs() {
        promise(11);
        Derivationdesk d = desk(3);
        due("closure", d.closure(1, 0), 0);
        due("rule", d.rule(0), "1(v0,v1):-0(v0,v1)/3");
        due("rule", d.rule(1), "1(v0,v2):-1(v0,v1),0(v1,v2)/3");
        due("TIME by 1", d.count(5), 1);
        due("closure", d.closure(2, 1), 2);
        for (boolean isClosure : new boolean[] {true, false}) {
            promise(isClosure ? 11 : 12);
            Derivationdesk e = desk(3);
            thrown(e, INDEX, "no head", () -> pair(e, isClosure, 4, 0));
            thrown(e, INDEX, "no of", () -> pair(e, isClosure, 0, -1));
            thrown(e, INDEX, "neither", () -> pair(e, isClosure, 7, 7));
            thrown(e, ARGUMENT, "the same", () -> pair(e, isClosure, 0, 0));
            thrown(e, ARGUMENT, "a head of one place", () -> pair(e, isClosure, 3, 0));
            thrown(e, ARGUMENT, "of one place", () -> pair(e, isClosure, 0, 3));
            draft(e, 0, 0, 1, w(2, 0, 1));
            e.without(1, 0, 1);
            due("lay", e.lay(2), 0);
            thrown(e, STATE, "a ring", () -> pair(e, isClosure, 1, 0));
            e.draft(2, 0, 0);
            pair(e, isClosure, 2, 1);
            due("the draft stays", e.count(7), 0);
            while (e.count(3) < 11) lay(e, 3, 2, 0, 1, w(1, 0, 1));
            thrown(e, STATE, "more than 12 rules", () -> pair(e, isClosure, 2, 1));
            thrown(e, ARGUMENT, "more than 12 rules, and the same", () -> pair(e, isClosure, 2, 2));
            e.scrap(10);
            due("12 rules", pair(e, isClosure, 2, 1), 10);
            thrown(e, STATE, "more than 12 rules", () -> pair(e, isClosure, 2, 1));
        }
        promise(12);
        Derivationdesk g = desk(2);
        due("generation", g.generation(1, 0), 0);
        due("rule", g.rule(0), "1(v0,v1):-0(v2,v0),0(v2,v1)/3");
        due("rule", g.rule(1), "1(v0,v1):-0(v2,v0),1(v2,v3),0(v3,v1)/3");
        due("TIME by 1", g.count(5), 1);
        g.tell(0, 0, 1);
        g.tell(0, 0, 2);
        g.tell(0, 1, 3);
        g.tell(0, 2, 4);
        due("rows", g.rows(1, 0), "1(1,1) 1(1,2) 1(2,1) 1(2,2) 1(3,3) 1(3,4) 1(4,3) 1(4,4)");
        due("rows of side 1", g.ofRelation(1, 3), 8);
    }

    private static int pair(Derivationdesk d, boolean isClosure, int head, int of) {
        return isClosure ? d.closure(head, of) : d.generation(head, of);
    }

    private static void sides() {
        promise(13);
        Derivationdesk d = desk(2);
        d.tell(0, 0, 1);
        lay(d, 1, 1, 0, 1, w(0, 0, 1));
        due("before", d.sides(0, 2), 1);
        due("side 0", d.rows(1, 0), "");
        due("side 1", d.rows(1, 1), "1(0,1)");
        due("TIME", d.count(5), 3);
        due("the same", d.sides(0, 2), 2);
        due("TIME also if they stay", d.count(5), 4);
        due("both", d.sides(0, 3), 2);
        due("rule", d.rule(0), "1(v0,v1):-0(v0,v1)/3");
        thrown(d, INDEX, "no rule", () -> d.sides(1, 9));
        thrown(d, INDEX, "rule -1", () -> d.sides(-1, 1));
        for (int s : new int[] {0, 4, -1, Integer.MIN_VALUE}) thrown(d, ARGUMENT, "sides " + s, () -> d.sides(0, s));

        promise(14);
        d.closure(1, 0);
        d.draft(0, 0, 0);
        thrown(d, INDEX, "no rule", () -> d.scrap(3));
        thrown(d, INDEX, "rule -1", () -> d.scrap(-1));
        due("left", d.scrap(0), 2);
        due("those after it move up", d.rule(0), "1(v0,v1):-0(v0,v1)/3");
        due("those after it move up", d.rule(1), "1(v0,v2):-1(v0,v1),0(v1,v2)/3");
        due("TIME", d.count(5), 7);
        due("the draft stays", d.count(7), 0);
        due("left", d.scrap(1), 1);
        due("left", d.scrap(0), 0);
        due("rows", d.rows(1, 0), "");
        thrown(d, INDEX, "none is left", () -> d.scrap(0));
        Derivationdesk f = desk(3);
        f.closure(1, 0);
        fillRules(f);
        due("of 12", f.scrap(0), 11);
        due("those after it move up", f.rule(0), "1(v0,v2):-1(v0,v1),0(v1,v2)/3");
        due("the last one", f.rule(10), "2(v0,v1):-0(v0,v1)/3");
        f.group(2, 0, 1, 1);
        due("the last of 12", f.scrap(11), 11);
        due("the last one", f.rule(10), "2(v0,v1):-0(v0,v1)/3");
        Derivationdesk e = desk(2);
        e.group(1, 0, 0, 3);
        due("LAYERS", e.count(4), 2);
        e.scrap(0);
        due("LAYERS", e.count(4), 1);
        due("the other way round", e.group(0, 1, 0, 3), 0);

        promise(15);
        Derivationdesk k = desk(1);
        due("knock", k.knock(), 1);
        thrown(k, ARGUMENT, "a wrong call is not counted", () -> k.relation(7));
        due("knock", k.knock(), 2);
        due("count", k.count(9), 2);
        due("TIME", k.count(5), 0);
    }

    private static void looks() {
        promise(16);
        Derivationdesk d = paths();
        d.tell(3, 2, -1);
        due("a fact", d.holds(0, 0, 1), true);
        due("made", d.holds(1, 0, 3), true);
        due("not", d.holds(1, 1, 0), false);
        due("one place", d.holds(3, 2, -1), true);
        due("one place, not", d.holds(3, 0, -1), false);
        wrongRow(d, 0, 3, (r, a, b) -> d.holds(r, a, b));

        promise(17);
        due("rows", d.rows(0, 0), "0(0,1) 0(1,2) 0(2,3) 0(3,1)");
        due("rows", d.rows(3, 1), "3(2)");
        due("no rows", d.rows(2, 0), "");
        d.sides(0, 2);
        due("side 0", d.rows(1, 0), "");
        due("side 1", d.rows(1, 1), "1(0,1) 1(0,2) 1(0,3) 1(1,1) 1(1,2) 1(1,3) 1(2,1) 1(2,2) 1(2,3) 1(3,1) 1(3,2) 1(3,3)");
        thrown(d, INDEX, "no relation", () -> d.rows(4, 7));
        thrown(d, INDEX, "relation -1", () -> d.rows(-1, 0));
        thrown(d, ARGUMENT, "side 2", () -> d.rows(0, 2));
        thrown(d, ARGUMENT, "side -1", () -> d.rows(0, -1));

        promise(18);
        due("places", d.ofRelation(0, 0), 2);
        due("places", d.ofRelation(3, 0), 1);
        due("facts", d.ofRelation(0, 1), 4);
        due("rows", d.ofRelation(1, 2), 0);
        due("rows of side 1", d.ofRelation(1, 3), 12);
        due("layer", d.ofRelation(1, 4), 0);
        d.group(2, 1, 0, 2);
        due("layer by a rule of side 1", d.ofRelation(2, 4), 1);
        thrown(d, INDEX, "no relation", () -> d.ofRelation(4, 9));
        thrown(d, ARGUMENT, "what 5", () -> d.ofRelation(0, 5));
        thrown(d, ARGUMENT, "what -1", () -> d.ofRelation(0, -1));

        promise(19);
        Derivationdesk r = desk(3);
        r.draft(2, 0, 13);
        r.compare(2, 0, 1);
        r.with(0, 0, 1);
        r.without(3, 1, -1);
        r.lay(3);
        due("rule", r.rule(0), "2(v0,3):-0(v0,v1),v0<v1,!3(v1)/3");
        r.draft(3, 10, -1);
        r.without(0, 10, 14);
        r.compare(1, 11, 12);
        r.compare(0, 11, 11);
        r.compare(3, 13, 14);
        r.lay(1);
        due("rule", r.rule(1), "3(0):-!0(0,4),1#2,1=1,3+4/1");
        r.group(2, 0, 1, 3);
        due("group", r.rule(2), "2:-g1 0/3");
        thrown(r, INDEX, "no rule", () -> r.rule(3));
        thrown(r, INDEX, "rule -1", () -> r.rule(-1));
        thrown(r, INDEX, "rule 12", () -> r.rule(12));
    }

    private static void counts() {
        promise(20);
        Derivationdesk d = paths();
        d.group(2, 1, 0, 1);
        d.draft(0, 0, 1);
        d.with(0, 0, 1);
        d.knock();
        int[] want = {4, 4, 4 + 12 + 4, 3, 2, 6, 0, 1, 4 + 12, 1};
        for (int what = 0; what <= 9; what++) due("count " + what, d.count(what), want[what]);
        thrown(d, ARGUMENT, "what 10", () -> d.count(10));
        thrown(d, ARGUMENT, "what -1", () -> d.count(-1));
        thrown(d, ARGUMENT, "what 2^31 - 1", () -> d.count(Integer.MAX_VALUE));
        due("no LAYER without relations", new Derivationdesk().count(4), 0);
        due("one LAYER", desk(0).count(4), 1);

        promise(21);
        Derivationdesk c = desk(2);
        c.tell(0, 0, 1);
        c.tell(0, 1, 2);
        c.tell(0, 2, 3);
        due("no rules, no rounds", c.work(0, 0), 0);
        c.closure(1, 0);
        // Rounds: 3 rows by the first rule; 2 more; 1 more; none.
        due("rounds", c.work(0, 0), 4);
        due("firings", c.work(0, 1), 3 + (3 + 2) + (3 + 2 + 1) + (3 + 2 + 1));
        due("rounds", c.work(1, 0), 4);
        due("firings", c.work(1, 1), 3 + 2 + 1);
        c.sides(0, 2);
        due("a layer whose rules have no match has a round", c.work(0, 0), 1);
        due("firings", c.work(0, 1), 0);
        c.sides(1, 2);
        due("a layer without rules of side 0", c.work(0, 0), 0);
        thrown(c, ARGUMENT, "way 2", () -> c.work(2, 0));
        thrown(c, ARGUMENT, "way -1", () -> c.work(-1, 0));
        thrown(c, ARGUMENT, "what 2", () -> c.work(0, 2));
        thrown(c, ARGUMENT, "what -1", () -> c.work(1, -1));
        Derivationdesk g = desk(2);
        g.tell(0, 0, 1);
        g.tell(0, 3, 1);
        g.group(1, 0, 0, 1);
        due("rounds of a group", g.work(0, 0), 2);
        due("it fires in each", g.work(0, 1), 4);
        due("rounds", g.work(1, 0), 2);
        due("but once by what is new", g.work(1, 1), 2);
    }

    private static void wrongPattern(Derivationdesk d, int two, int one, RowCall call) {
        thrown(d, INDEX, "no relation", () -> call.answer(-1, 9, 9));
        thrown(d, INDEX, "no relation", () -> call.answer(d.count(0), 0, 0));
        thrown(d, ARGUMENT, "first -2", () -> call.answer(two, -2, 0));
        thrown(d, ARGUMENT, "first 5", () -> call.answer(two, 5, 0));
        thrown(d, ARGUMENT, "second -2", () -> call.answer(two, 0, -2));
        thrown(d, ARGUMENT, "second 5", () -> call.answer(two, 0, 5));
        thrown(d, ARGUMENT, "second of one place", () -> call.answer(one, 0, 0));
        thrown(d, ARGUMENT, "second -2 of one place", () -> call.answer(one, 0, -2));
        thrown(d, ARGUMENT, "first 5 of one place", () -> call.answer(one, 5, -1));
    }

    private static void questions() {
        promise(22);
        Derivationdesk d = paths();
        d.tell(3, 4, -1);
        due("first told", d.question(1, 0, -1), "1(0,1) 1(0,2) 1(0,3)");
        due("second told", d.question(0, -1, 1), "0(0,1) 0(3,1)");
        due("both", d.question(0, 3, 1), "0(3,1)");
        due("both, not", d.question(0, 1, 3), "");
        due("none", d.question(0, -1, -1), "0(0,1) 0(1,2) 0(2,3) 0(3,1)");
        due("one place", d.question(3, -1, -1), "3(4)");
        due("one place", d.question(3, 4, -1), "3(4)");
        due("one place", d.question(3, 3, -1), "");
        wrongPattern(d, 0, 3, (r, a, b) -> d.question(r, a, b));

        promise(23);
        due("a relation without rules", d.demands(0, 0, -1, 0), 1);
        due("rows", d.demands(0, 0, -1, 1), 1);
        // 1(0,_), 0(0,_); then 1(0,x) with x 1, 2, 3: 0(1,_), 0(2,_), 0(3,_).
        due("from 0 on", d.demands(1, 0, -1, 0), 5);
        due("rows", d.demands(1, 0, -1, 1), 3 + 4);
        // 1(1,0), 0(1,0), 1(1,_), 0(1,_), 0(x,0) of x 1, 2, 3, 0(2,_), 0(3,_).
        due("both told", d.demands(1, 1, 0, 0), 8);
        due("no such relation told by a head", d.demands(3, -1, -1, 0), 1);
        due("rows", d.demands(3, -1, -1, 1), 1);
        wrongPattern(d, 0, 3, (r, a, b) -> d.demands(r, a, b, 5));
        thrown(d, ARGUMENT, "what 2", () -> d.demands(0, 0, 0, 2));
        thrown(d, ARGUMENT, "what -1", () -> d.demands(0, 0, 0, -1));
        Derivationdesk e = desk(3);
        e.tell(0, 0, 1);
        e.tell(0, 2, 2);
        e.tell(3, 2, -1);
        e.draft(2, 0, 0);
        e.with(0, 0, 1);
        e.without(3, 0, -1);
        e.compare(2, 0, 1);
        e.without(1, 1, 1);
        e.lay(1);
        due("the head is no such row", e.demands(2, 0, 1, 0), 1);
        // 2(_,_), 0(_,_), 3(0), 3(2), 1(1,1).
        due("without", e.demands(2, -1, -1, 0), 5);
        due("rows", e.demands(2, -1, -1, 1), 1 + 2 + 1);
        // 2(2,_), 0(2,_), 3(2) which is there.
        due("a without that is not so", e.demands(2, 2, -1, 0), 3);
        due("the second place tells as much", e.demands(2, -1, 2, 0), 3);
        e.sides(0, 2);
        due("a rule of side 1 asks nothing", e.demands(2, -1, -1, 0), 1);
        Derivationdesk g = desk(2);
        g.tell(0, 1, 3);
        g.group(1, 0, 1, 1);
        due("a group", g.demands(1, 1, 3, 0), 2);
        due("rows", g.demands(1, 1, 3, 1), 2);
        due("a group of all", g.demands(1, -1, 3, 0), 2);
        due("rows", g.demands(1, 0, -1, 1), 0);
        Derivationdesk c = desk(2);
        lay(c, 1, 1, 0, 12, w(0, 0, 0));
        c.tell(0, 1, 1);
        c.tell(0, 1, 2);
        due("a constant in the head that is unlike", c.demands(1, -1, 3, 0), 1);
        due("the same one", c.demands(1, -1, 2, 0), 2);
        due("known twice", c.demands(1, 1, 2, 1), 2);
    }

    private static void heights() {
        promise(24);
        Derivationdesk d = paths();
        due("a fact", d.height(0, 0, 1), 0);
        due("one step", d.height(1, 0, 1), 1);
        due("three steps", d.height(1, 0, 3), 3);
        due("round", d.height(1, 1, 1), 3);
        due("none", d.height(1, 1, 0), -1);
        d.tell(1, 0, 2);
        due("told now", d.height(1, 0, 2), 0);
        due("and so lower", d.height(1, 0, 3), 1);
        d.group(2, 1, 0, 1);
        due("of a group: the tallest of its rows", d.height(2, 1, 3), 4);
        wrongRow(d, 0, 3, (r, a, b) -> d.height(r, a, b));
        d.draft(3, 10, -1);
        d.without(3 - 3, 14, 14);
        d.lay(1);
        due("without a with part", d.height(3, 0, -1), 1);

        promise(25);
        due("told and made", d.reasons(1, 0, 2), 2);
        due("made", d.reasons(1, 0, 1), 1 + 1);
        due("none", d.reasons(1, 1, 0), 0);
        due("of a group", d.reasons(2, 1, 3), 1);
        due("of one place", d.reasons(3, 0, -1), 1);
        wrongRow(d, 0, 3, (r, a, b) -> d.reasons(r, a, b));

        promise(26);
        due("told", d.reason(1, 0, 2, 0), "told");
        due("then matches", d.reason(1, 0, 2, 1), "r1 0 1 2");
        due("the best is told", d.reason(1, 0, 2, -1), "told");
        due("by rule", d.reason(1, 0, 1, 0), "r0 0 1");
        due("then by the other rule", d.reason(1, 0, 1, 1), "r1 0 3 1");
        due("best", d.reason(1, 0, 3, -1), "r1 0 2 3");
        due("of a group", d.reason(2, 1, 3, 0), "r2 1");
        due("no variables", d.reason(3, 0, -1, 0), "r3");
        thrown(d, STATE, "too many", () -> d.reason(1, 0, 2, 2));
        thrown(d, STATE, "k -2", () -> d.reason(1, 0, 2, -2));
        thrown(d, STATE, "k 2^31 - 1", () -> d.reason(1, 0, 2, Integer.MAX_VALUE));
        thrown(d, STATE, "no row", () -> d.reason(1, 1, 0, -1));
        thrown(d, STATE, "no row", () -> d.reason(1, 1, 0, 0));
        wrongRow(d, 0, 3, (r, a, b) -> d.reason(r, a, b, 99));
        Derivationdesk b = desk(3);
        b.tell(0, 0, 1);
        b.tell(0, 0, 2);
        lay(b, 1, 1, 0, 0, w(2, 0, 1));
        lay(b, 1, 1, 0, 0, w(0, 0, 1));
        lay(b, 1, 2, 0, 1, w(0, 0, 1));
        due("the best is of the least height", b.reason(1, 0, 0, -1), "r1 0 1");
        due("the first one is not", b.reason(1, 0, 0, 0), "r0 0 1");
        due("by values", b.reason(1, 0, 0, 3), "r1 0 2");

        promise(27);
        due("a fact alone", d.proof(0, 0, 1), 1);
        due("told", d.proof(1, 0, 2), 1);
        due("1(0,3), 1(0,2), 0(2,3)", d.proof(1, 0, 3), 3);
        due("1(1,1), 1(1,3), 1(1,2) and the edges", d.proof(1, 1, 1), 6);
        due("none", d.proof(1, 1, 0), 0);
        due("of a group", d.proof(2, 2, 3), 1 + 3 + 3);
        wrongRow(d, 0, 3, (r, x, y) -> d.proof(r, x, y));

        promise(28);
        due("line 0", d.line(1, 0, 3, 0), "0(2,3) told");
        due("line 1", d.line(1, 0, 3, 1), "1(0,2) told");
        due("line 2", d.line(1, 0, 3, 2), "1(0,3) r1 0 2 3");
        due("by height, relation, row", d.line(1, 1, 1, 3), "1(1,2) r0 1 2");
        due("of one place", d.line(3, 0, -1, 0), "3(0) r3");
        due("of a group", d.line(2, 2, 3, 6), "2(2,3) r2 2");
        thrown(d, STATE, "line 3", () -> d.line(1, 0, 3, 3));
        thrown(d, STATE, "line -1", () -> d.line(1, 0, 3, -1));
        thrown(d, STATE, "no row", () -> d.line(1, 1, 0, 0));
        wrongRow(d, 0, 3, (r, x, y) -> d.line(r, x, y, 99));
    }

    private static void whyNots() {
        promise(29);
        Derivationdesk d = paths();
        due("so", d.whyNot(1, 0, 2), "so");
        // v1 of 1(0,v1) can be 1, 2, 3; then 0(v1,0) is not so: the first is 1.
        due("the second part", d.whyNot(1, 0, 0), "1 0 1 0");
        due("the first part", d.whyNot(1, 4, 0), "0 4 0 0");
        d.draft(2, 0, 0);
        d.with(0, 0, 1);
        d.compare(2, 1, 0);
        d.without(3, 0, -1);
        d.lay(2);
        due("head", d.whyNot(2, 0, 1), "head");
        due("so, of a rule of side 1", d.whyNot(2, 3, 3), "so");
        due("a compare", d.whyNot(2, 0, 0), "1 0 1");
        d.tell(3, 3, -1);
        due("a without", d.whyNot(2, 3, 3), "2 3 1");
        lay(d, 1, 3, 12, -1, w(0, 0, 0));
        due("head with a constant", d.whyNot(3, 1, -1), "head");
        due("the first values", d.whyNot(3, 2, -1), "0 0");
        d.group(2, 0, 0, 1);
        thrown(d, STATE, "a group", () -> d.whyNot(4, 0, 0));
        thrown(d, ARGUMENT, "a group, and a wrong constant", () -> d.whyNot(4, 5, 0));
        thrown(d, INDEX, "no rule", () -> d.whyNot(5, 9, 9));
        thrown(d, INDEX, "rule -1", () -> d.whyNot(-1, 0, 0));
        thrown(d, ARGUMENT, "first 5", () -> d.whyNot(1, 5, 0));
        thrown(d, ARGUMENT, "first -1", () -> d.whyNot(1, -1, 0));
        thrown(d, ARGUMENT, "second NONE", () -> d.whyNot(1, 0, -1));
        thrown(d, ARGUMENT, "second 5", () -> d.whyNot(1, 0, 5));
        thrown(d, ARGUMENT, "second of one place", () -> d.whyNot(3, 2, 0));
    }

    private static void joins() {
        promise(30);
        Derivationdesk d = desk(4);
        for (int b = 0; b < 5; b++) d.tell(0, 0, b);
        d.tell(1, 2, 3);
        d.tell(1, 4, 4);
        d.tell(2, 3, 0);
        // 0(v0,v1), 1(v1,v2), 2(v2,v0)
        lay(d, 2, 3, 0, 1, w(0, 0, 1), w(1, 1, 2), w(2, 2, 0));
        due("as numbered: 5, 2, 1", d.visits(0, false), 8);
        // The fewest rows first: 2(v2,v0) has 1; then one place known each: 1 has 2 rows; then 0(v0,v1) with both known.
        due("as planned: 1, 1, 1", d.visits(0, true), 3);
        d.draft(3, 10, 10);
        d.without(0, 14, 14);
        d.lay(1);
        due("no with part", d.visits(1, false), 0);
        due("no with part", d.visits(1, true), 0);
        lay(d, 1, 4, 0, -1, w(0, 10, 0), w(0, 10, 1));
        due("5 and 25", d.visits(2, false), 30);
        d.group(3, 0, 0, 1);
        thrown(d, STATE, "a group", () -> d.visits(3, true));
        thrown(d, INDEX, "no rule", () -> d.visits(4, true));
        thrown(d, INDEX, "rule -1", () -> d.visits(-1, false));

        promise(31);
        due("plan", d.plan(0), "210");
        due("no with part", d.plan(1), "");
        due("the smallest number", d.plan(2), "01");
        lay(d, 1, 3, 0, 1, w(0, 0, 1), w(1, 10, 14), w(4, 1, -1), w(4, 13, -1));
        due("constants first; then both have 5 rows", d.plan(4), "1302");
        lay(d, 1, 3, 0, 1, w(1, 0, 0), w(2, 0, 1));
        due("a variable twice is not known", d.plan(5), "10");
        thrown(d, STATE, "a group", () -> d.plan(3));
        thrown(d, INDEX, "no rule", () -> d.plan(6));
        thrown(d, INDEX, "rule -1", () -> d.plan(-1));

        promise(32);
        due("of side 1", d.matches(0), 1);
        due("no variables", d.matches(1), 1);
        due("two parts", d.matches(2), 25);
        due("a group", d.matches(3), 1);
        thrown(d, INDEX, "no rule", () -> d.matches(6));
        thrown(d, INDEX, "rule -1", () -> d.matches(-1));

        promise(33);
        Derivationdesk p = paths();
        due("one", p.nearest(0, 0, 1), 1);
        due("three", p.nearest(0, 0, 3), 3);
        due("of the answer", p.nearest(1, 0, 3), 1);
        due("the same", p.nearest(2, 4, 4), 0);
        due("the same, without a row", p.nearest(0, 0, 0), 0);
        due("none", p.nearest(0, 1, 0), -1);
        p.tell(2, 0, 4);
        p.tell(2, 4, 1);
        p.tell(2, 1, 3);
        p.tell(2, 3, 2);
        due("four", p.nearest(2, 0, 2), 4);
        thrown(p, INDEX, "no relation", () -> p.nearest(4, 9, 9));
        thrown(p, INDEX, "relation -1", () -> p.nearest(-1, 0, 0));
        thrown(p, ARGUMENT, "one place", () -> p.nearest(3, 0, 0));
        thrown(p, ARGUMENT, "from 5", () -> p.nearest(0, 5, 0));
        thrown(p, ARGUMENT, "from -1", () -> p.nearest(0, -1, 0));
        thrown(p, ARGUMENT, "to 5", () -> p.nearest(0, 0, 5));
        thrown(p, ARGUMENT, "to -1", () -> p.nearest(0, 0, -1));
    }

    private static void containments() {
        promise(34);
        Derivationdesk d = desk(2);
        int wide = lay(d, 3, 1, 0, 1, w(0, 0, 1));
        int narrow = lay(d, 2, 1, 0, 1, w(0, 0, 1), w(0, 1, 2));
        int same = lay(d, 1, 1, 0, 0, w(0, 0, 0));
        int constant = lay(d, 1, 1, 10, 0, w(0, 10, 0), w(0, 3, 14));
        d.draft(1, 0, 1);
        d.with(0, 0, 1);
        d.compare(1, 0, 1);
        int notPlain = d.lay(3);
        int group = d.group(1, 0, 0, 3);
        int mark = lay(d, 1, 2, 0, -1, w(0, 0, 1));
        due("with more parts", d.contained(narrow, wide), true);
        due("not the other way", d.contained(wide, narrow), false);
        due("in itself", d.contained(wide, wide), true);
        due("the same variable twice", d.contained(same, narrow), true);
        due("a constant", d.contained(constant, wide), true);
        due("no constant", d.contained(wide, constant), false);
        due("another head", d.contained(mark, wide), false);
        due("one place", d.contained(mark, mark), true);
        promise(35);
        due("witness", d.witness(narrow, wide), "0 1");
        due("none", d.witness(wide, narrow), "none");
        due("one variable", d.witness(same, narrow), "0 0 0");
        due("a constant", d.witness(constant, wide), "10 0");
        due("variables not from 0 on", d.witness(constant, constant), "0 3");
        Derivationdesk e = desk(2);
        lay(e, 3, 1, 0, 0, w(0, 0, 3), w(0, 0, 2), w(0, 0, 11));
        lay(e, 3, 1, 1, 1, w(0, 1, 2));
        due("the first of several, by terms", e.witness(0, 1), "0 2");
        lay(e, 3, 1, 1, 1, w(0, 1, 0));
        due("variables rising", e.witness(0, 2), "2 0");
        lay(e, 3, 1, 0, 0, w(0, 0, 11));
        due("a constant's number", e.witness(3, 2), "11 0");
        for (boolean isWitness : new boolean[] {false, true}) {
            promise(isWitness ? 35 : 34);
            thrown(d, INDEX, "no rule", () -> contain(d, isWitness, 7, group));
            thrown(d, INDEX, "no other", () -> contain(d, isWitness, group, 7));
            thrown(d, INDEX, "rule -1", () -> contain(d, isWitness, -1, 0));
            thrown(d, INDEX, "other -1", () -> contain(d, isWitness, 0, -1));
            thrown(d, STATE, "not plain", () -> contain(d, isWitness, notPlain, wide));
            thrown(d, STATE, "other not plain", () -> contain(d, isWitness, wide, notPlain));
            thrown(d, STATE, "a group", () -> contain(d, isWitness, group, group));
        }

        promise(36);
        Derivationdesk n = desk(3);
        int first = n.closure(1, 0);
        due("none of a closure", n.needless(first), false);
        due("none of a closure", n.needless(first + 1), false);
        int two = lay(n, 2, 1, 0, 2, w(0, 0, 1), w(0, 1, 2));
        due("two steps follow from it", n.needless(two), true);
        int long2 = lay(n, 1, 1, 3, 0, w(0, 3, 1), w(1, 1, 0));
        due("not by the others", n.needless(long2), false);
        n.draft(1, 0, 1);
        n.with(0, 0, 1);
        n.without(3, 0, -1);
        int guarded = n.lay(1);
        due("with a without part", n.needless(guarded), true);
        int self = lay(n, 1, 2, 0, 1, w(2, 0, 1), w(0, 0, 0));
        due("one of its own facts", n.needless(self), true);
        int g = n.group(2, 0, 0, 1);
        due("a group is not", n.needless(g), false);
        n.draft(2, 10, 11);
        n.without(3, 14, -1);
        int bare = n.lay(1);
        due("no with part", n.needless(bare), false);
        n.sides(0, 2);
        due("others of side 1 do not count", n.needless(two), false);
        thrown(n, INDEX, "no rule", () -> n.needless(bare + 1));
        thrown(n, INDEX, "rule -1", () -> n.needless(-1));
    }

    private static Object contain(Derivationdesk d, boolean isWitness, int rule, int other) {
        return isWitness ? (Object) d.witness(rule, other) : (Object) d.contained(rule, other);
    }

    private static void wishes() {
        promise(37);
        Derivationdesk d = desk(3);
        d.closure(1, 0);
        d.tell(0, 0, 1);
        due("none needed", d.wish(0, 1, 0, 1), "");
        due("one", d.wish(0, 1, 0, 2), "0(0,2)");
        due("of the relation itself", d.wish(1, 1, 3, 3), "1(3,3)");
        lay(d, 1, 2, 0, 1, w(0, 0, 2), w(0, 2, 1), w(3, 0, -1));
        due("2 of 2 and one of another", d.wish(0, 2, 3, 4), "none");
        d.tell(3, 3, -1);
        due("two, the first by rows", d.wish(0, 2, 3, 4), "0(0,4) 0(3,0)");
        due("one place", d.wish(3, 2, 3, 4), "none");
        d.tell(0, 4, 2);
        due("one of one place", d.wish(3, 2, 4, 2), "none");
        d.tell(0, 2, 2);
        due("one of one place", d.wish(3, 2, 4, 2), "3(4)");
        due("not reached", d.wish(2, 3, 0, -1), "none");
        for (int a = 0; a < 5; a++) due("the row itself", d.wish(3, 3, a, -1), a == 3 ? "" : "3(" + a + ")");
        for (int cell = 0; cell < 25; cell++) {
            due("the row itself", d.wish(2, 2, cell / 5, cell % 5), d.holds(2, cell / 5, cell % 5) ? "" : "2(" + cell / 5 + "," + cell % 5 + ")");
        }
        lay(d, 1, 3, 0, -1, w(0, 0, 1), w(0, 1, 0), w(0, 1, 1));
        due("one row for three parts", d.wish(0, 3, 1, -1), "0(1,1)");
        wrongRow(d, 0, 3, (r, a, b) -> d.wish(0, r, a, b));
        thrown(d, INDEX, "no wished", () -> d.wish(4, 9, 9, 9));
        thrown(d, INDEX, "wished -1", () -> d.wish(-1, 0, 0, 0));
        due("nothing is told by it", d.count(1), 4);
        Derivationdesk e = desk(1);
        e.draft(1, 0, -1);
        e.with(0, 0, 1);
        e.without(0, 1, 0);
        e.lay(1);
        e.tell(0, 0, 1);
        e.tell(0, 1, 0);
        due("not by the rows that are facts", e.wish(0, 1, 0, -1), "0(0,2)");

        promise(38);
        Derivationdesk f = desk(2);
        lay(f, 1, 1, 0, 1, w(0, 0, 1));
        lay(f, 2, 1, 0, 1, w(0, 1, 0));
        due("size 1", f.differ(0, 1, 1), -1);
        due("size 2: the row (0,1)", f.differ(0, 1, 2), 2);
        due("size 3", f.differ(0, 1, 3), 2);
        f.tell(0, 3, 4);
        due("facts do not count", f.differ(0, 1, 2), 2);
        due("not given", f.differ(1, 1, 3), -1);
        due("one place", f.differ(2, 1, 3), -1);
        Derivationdesk h = desk(2);
        lay(h, 1, 1, 0, 0, w(0, 0, 1), w(0, 1, 2), w(2, 0, -1));
        h.draft(1, 13, 13);
        h.without(0, 10, 10);
        h.lay(1);
        due("the empty set", h.differ(0, 1, 3), 0);
        due("the empty set of another one", h.differ(2, 1, 1), 0);
        h.sides(1, 3);
        due("one is not enough", h.differ(0, 1, 3), -1);
        h.draft(2, 0, -1);
        h.with(0, 0, 0);
        h.lay(3);
        due("0(0,0) alone", h.differ(0, 1, 3), 1);
        Derivationdesk k = desk(2);
        lay(k, 1, 1, 0, 1, w(2, 0, -1), w(2, 1, -1));
        lay(k, 2, 1, 0, 0, w(2, 0, -1));
        due("two of one place", k.differ(2, 1, 3), 3);
        thrown(k, INDEX, "no given", () -> k.differ(3, 0, 9));
        thrown(k, INDEX, "no relation", () -> k.differ(0, -1, 9));
        for (int s : new int[] {0, 4, -1, Integer.MAX_VALUE}) thrown(k, ARGUMENT, "size " + s, () -> k.differ(0, 1, s));

        promise(39);
        Derivationdesk p = paths();
        due("told", p.would(0, 3, 0, true), 1 + 4);
        due("told, as it is", p.would(0, 0, 1, true), 0);
        due("taken back", p.would(0, 0, 1, false), -4);
        due("taken back, as it is not told", p.would(0, 4, 4, false), 0);
        due("of the answer, but not told", p.would(1, 0, 1, false), 0);
        due("one place", p.would(3, 0, -1, true), 1);
        due("nothing is told by it", p.count(1), 4);
        wrongRow(p, 0, 3, (r, a, b) -> p.would(r, a, b, true));
        wrongRow(p, 0, 3, (r, a, b) -> p.would(r, a, b, false));
    }

    private static void times() {
        promise(40);
        Derivationdesk d = desk(2);
        d.tell(0, 0, 1);
        d.closure(1, 0);
        d.untell(0, 0, 1);
        due("at first", d.held(0, 0, 0, 1), false);
        due("then", d.held(1, 0, 0, 1), true);
        due("made then", d.held(1, 1, 0, 1), false);
        due("made then", d.held(2, 1, 0, 1), true);
        due("now", d.held(3, 1, 0, 1), false);
        thrown(d, INDEX, "a time to come", () -> d.held(4, 0, 0, 1));
        thrown(d, INDEX, "time -1", () -> d.held(-1, 0, 0, 1));
        thrown(d, INDEX, "time -2^31", () -> d.held(Integer.MIN_VALUE, 0, 9, 1));
        thrown(d, INDEX, "time 2^31 - 1", () -> d.held(Integer.MAX_VALUE, 0, 9, 1));
        wrongRow(d, 0, 2, (r, a, b) -> d.held(2, r, a, b));
        due("a new relation", d.relation(2), 3);
        due("was not there then", d.held(1, 3, 0, 1), false);
        for (int t = 4; t <= 30; t++) d.sides(0, 3);
        due("TIME", d.count(5), 30);
        due("30 are kept", d.held(1, 0, 0, 1), true);
        thrown(d, INDEX, "time 0 is gone", () -> d.held(0, 0, 0, 1));
        d.scrap(1);
        due("30 are kept", d.held(2, 0, 0, 1), true);
        thrown(d, INDEX, "time 1 is gone", () -> d.held(1, 0, 0, 1));

        promise(41);
        Derivationdesk s = desk(2);
        due("not now", s.since(0, 0, 1), -1);
        s.tell(0, 0, 1);
        due("from 1 on", s.since(0, 0, 1), 1);
        s.tell(2, 3, -1);
        due("still", s.since(0, 0, 1), 1);
        due("one place", s.since(2, 3, -1), 2);
        s.untell(0, 0, 1);
        due("not now", s.since(0, 0, 1), -1);
        s.tell(0, 0, 1);
        due("at each one till now", s.since(0, 0, 1), 4);
        due("still", s.since(2, 3, -1), 2);
        lay(s, 3, 1, 0, 1, w(0, 0, 1));
        due("made", s.since(1, 0, 1), 5);
        for (int t = 6; t <= 31; t++) s.sides(0, 1);
        due("kept", s.since(2, 3, -1), 2);
        s.sides(0, 1);
        due("the earliest that is kept", s.since(2, 3, -1), 3);
        wrongRow(s, 0, 2, (r, a, b) -> s.since(r, a, b));
    }

    private static void sound() {
        promise(42);
        Derivationdesk d = paths();
        due("sound", d.isSound(), true);
        d.group(2, 1, 2, 1);
        lay(d, 1, 1, 0, 2, w(0, 0, 1), w(0, 1, 2));
        d.draft(3, 0, -1);
        d.with(0, 0, 1);
        d.without(2, 0, 14);
        d.lay(1);
        due("sound with a needless rule, a group and a without part", d.isSound(), true);
        d.untell(0, 2, 3);
        due("sound", d.isSound(), true);

        promise(43);
        Derivationdesk e = desk(1);
        e.tell(0, 1, 2);
        lay(e, 3, 1, 0, -1, w(0, 0, 1));
        // Counts; then places, facts, rows, rows of side 1, layer, and 5a+b, height, reasons of each row.
        long n = 6104;
        int[] values = {2, 1, 2, 1, 1, 2, 0, -1, 2, 0, 2, 1, 1, 1, 0, 7, 0, 1, 1, 0, 1, 1, 0, 5, 1, 1,
            "1(v0):-0(v0,v1)/3".length(), 1, 2, 2, 2, 1, 1};
        for (int v : values) n = n * 31 + v;
        due("digest", e.digest(), n);
        due("again", e.digest(), n);
        e.knock();
        due("another one", e.digest() != n, true);
    }

    public static void main(String[] args) {
        newObject();
        relation();
        tell();
        untell();
        drafts();
        lays();
        groups();
        pairs();
        sides();
        looks();
        counts();
        questions();
        heights();
        whyNots();
        joins();
        containments();
        wishes();
        times();
        sound();
        end();
    }
}
