import java.io.IOException;

/** The four sections of the description: each sentence that names a boundary case, with answers found by hand. */
public final class DescriptionTest extends Sentences {

    // ---- around the sections

    private static void around() {
        section(0, "An object is used for at most 512 calls after it has been made; what later calls answer is free.");
        Derivationdesk d = desk(2, 2);
        d.closure(1, 0);
        for (int call = 4; call <= 507; call += 2) {
            d.tell(0, 0, 1);
            d.untell(0, 0, 1);
        }
        due("the 508th call", d.count(5), 1 + 504);
        due("the 509th call", d.held(504, 1, 0, 1), true);
        due("the 510th call", d.held(505 - 29, 1, 0, 1), true);
        due("the 511th call", d.tell(0, 4, 4), 2);
        due("the 512th call", d.isSound(), true);

        section(0, "NONE is -1.");
        due("NONE", desk(2).count(7), -1);

        section(0, "Of several the smallest or first one, if nothing else is said.");
        Derivationdesk e = desk(2, 2);
        lay(e, 1, head(1, 0, 0), with(0, 0, 1));
        due("of several wishes the first", e.wish(0, 1, 2, 2), "0(2,0)");

        section(0, "A method that throws an exception changes nothing.");
        Derivationdesk f = desk(2, 1);
        tellAll(f, 0, 1, 12);
        draft(f, head(1, 0, NONE), with(0, 0, 1), compares(2, 0, 1), without(1, 1, NONE));
        thrown(f, STATE, "a ring", () -> f.lay(3));
        thrown(f, INDEX, "no relation in place of the draft", () -> f.draft(2, 0, 1));
        thrown(f, ARGUMENT, "no term in place of the draft", () -> f.draft(0, 0, 5));
        due("the refused draft is as it was: a part fits in", f.with(0, 1, 0), 4);
        thrown(f, STATE, "a fifth part", () -> f.with(0, 0, 1));
        thrown(f, STATE, "a ring", () -> f.lay(1));
        f.draft(1, 0, NONE);
        f.with(0, 0, 1);
        due("another draft is laid then", f.lay(3), 0);
        due("and nothing of the refused one", f.rule(0), "1(v0):-0(v0,v1)/3");

        section(0, "If several exceptions apply, the one that is named first is thrown.");
        Derivationdesk g = new Derivationdesk();
        thrown(g, INDEX, "no relation, no terms and no draft", () -> g.with(0, 99, 99));
        thrown(g, ARGUMENT, "no terms and no draft", () -> g.compare(0, 99, 99));
        thrown(g, ARGUMENT, "no sides and no draft", () -> g.lay(0));
    }

    // ---- 1. Relations, rows, rules

    private static void relations() {
        section(1, "CONSTANTS are 0 to 4.");
        Derivationdesk d = desk(2, 1);
        for (int a = 0; a <= 4; a++) {
            for (int b = 0; b <= 4; b++) due("tell " + a + " " + b, d.tell(0, a, b), 1);
            due("tell " + a, d.tell(1, a, NONE), 1);
        }
        due("all rows", d.count(2), 30);
        thrown(d, ARGUMENT, "5", () -> d.holds(0, 5, 0));
        thrown(d, ARGUMENT, "-1", () -> d.holds(0, -1, 0));
        thrown(d, ARGUMENT, "second 5", () -> d.holds(0, 0, 5));

        section(1, "RELATIONS, at most 8, numbered from 0, have 1 or 2 PLACES.");
        Derivationdesk e = new Derivationdesk();
        thrown(e, INDEX, "no relation 0 yet", () -> e.rows(0, 0));
        for (int i = 0; i < 8; i++) due("relation", e.relation(i % 2 + 1), i);
        for (int i = 0; i < 8; i++) due("places of " + i, e.ofRelation(i, 0), i % 2 + 1);
        thrown(e, STATE, "a ninth", () -> e.relation(1));
        thrown(e, INDEX, "no relation 8", () -> e.rows(8, 0));
        due("a row of the eighth", e.tell(7, 4, 4), 1);

        section(1, "where a call has a second one for a RELATION of one PLACE, it is NONE");
        thrown(d, ARGUMENT, "0 is not NONE", () -> d.holds(1, 0, 0));
        thrown(d, ARGUMENT, "NONE for two places", () -> d.holds(0, 0, NONE));
        due("NONE", d.holds(1, 0, NONE), true);

        section(1, "Rows are by their first, then their second CONSTANT.");
        Derivationdesk f = desk(2, 1);
        tellAll(f, 0, 40, 4, 31, 30, 0);
        tellSingle(f, 1, 4, 0, 2);
        due("rows", f.rows(0, 0), "0(0,0) 0(0,4) 0(3,0) 0(3,1) 0(4,0)");
        due("rows of one place", f.rows(1, 0), "1(0) 1(2) 1(4)");

        section(1, "TEXT of a row: the RELATION, \"(\", the CONSTANTS with \",\" between, \")\": \"3(0,4)\", \"2(1)\".");
        Derivationdesk g = desk(1, 1, 1, 2);
        g.tell(3, 0, 4);
        g.tell(2, 1, NONE);
        due("two places", g.rows(3, 0), "3(0,4)");
        due("one place", g.rows(2, 0), "2(1)");

        section(1, "FACTS are rows that are told.");
        Derivationdesk h = desk(2, 2);
        lay(h, 3, head(1, 0, 1), with(0, 0, 1));
        h.tell(0, 0, 1);
        due("a row that is made is none", h.ofRelation(1, 1), 0);
        thrown(h, STATE, "so it can't be taken back", () -> h.untell(1, 0, 1));
        due("but told", h.tell(1, 0, 1), 0);
        due("it is one", h.ofRelation(1, 1), 1);
        due("and stays when it is not made", h.untell(0, 0, 1), 1);
        due("FACTS of 0 then", h.ofRelation(0, 1), 0);
        due("row", h.rows(1, 0), "1(0,1)");
    }

    private static void terms() {
        section(1, "TERMS: variables 0 to 3, and 10 to 14 for the CONSTANTS 0 to 4.");
        Derivationdesk d = desk(2, 2);
        for (int t = 0; t <= 3; t++) {
            int rule = lay(d, 3, head(1, t, t), with(0, t, t));
            due("variable", d.rule(rule), "1(v" + t + ",v" + t + "):-0(v" + t + ",v" + t + ")/3");
        }
        for (int t = 10; t <= 14; t++) {
            int c = t - 10;
            int rule = lay(d, 3, head(1, t, t), with(0, t, t));
            due("constant", d.rule(rule), "1(" + c + "," + c + "):-0(" + c + "," + c + ")/3");
        }
        for (int t : new int[] {-1, 4, 9, 15}) thrown(d, ARGUMENT, "term " + t, () -> d.draft(1, t, 0));
        d.tell(0, 4, 4);
        due("the constant 4 is matched by 14 and each variable", d.reasons(1, 4, 4), 5);

        section(1, "A RULE (at most 12, numbered from 0; if one is gone, those after it move up)");
        Derivationdesk e = desk(2, 2);
        for (int i = 0; i < 12; i++) due("lay", lay(e, 3, head(1, 10 + i % 5, 10 + i / 5), with(0, 0, 1)), i);
        draft(e, head(1, 0, 1), with(0, 0, 1));
        thrown(e, STATE, "a thirteenth", () -> e.lay(3));
        due("left", e.scrap(5), 11);
        for (int i = 0; i < 11; i++) {
            int was = i < 5 ? i : i + 1;
            due("rule " + i, e.rule(i), "1(" + was % 5 + "," + was / 5 + "):-0(v0,v1)/3");
        }
        thrown(e, INDEX, "no rule 11", () -> e.rule(11));
        due("the draft is laid as the last one", e.lay(3), 11);
        due("left", e.scrap(11), 11);
        due("left", e.scrap(0), 10);
        due("rule 0", e.rule(0), "1(1,0):-0(v0,v1)/3");
        due("rule 9", e.rule(9), "1(1,2):-0(v0,v1)/3");

        section(1, "PARTS (1 to 4)");
        Derivationdesk f = desk(2, 2);
        f.draft(1, 10, 10);
        thrown(f, ARGUMENT, "none", () -> f.lay(3));
        for (int n = 1; n <= 4; n++) due("part", f.compare(0, 10, 10), n);
        thrown(f, STATE, "a fifth", () -> f.compare(0, 10, 10));
        due("four", f.lay(3), 0);
        due("one", lay(f, 3, head(1, 11, 11), compares(0, 10, 10)), 1);
        due("rows", f.rows(1, 0), "1(0,0) 1(1,1)");

        section(1, "SIDES, a set (the sum of 2^k) of 0 and 1");
        for (int set = 1; set <= 3; set++) {
            Derivationdesk g = desk(2, 2);
            g.tell(0, 0, 0);
            lay(g, set, head(1, 0, 1), with(0, 0, 1));
            due("side 0 of " + set, g.ofRelation(1, 2), set == 2 ? 0 : 1);
            due("side 1 of " + set, g.ofRelation(1, 3), set == 1 ? 0 : 1);
        }
    }

    private static void compared() {
        section(1, "COMPARES two TERMS: 0 the same, 1 unlike, 2 the first less than the second, 3 the first 1 less than the second.");
        for (int kind = 0; kind <= 3; kind++) {
            for (int cell = 0; cell < 25; cell++) {
                int a = cell / 5;
                int b = cell % 5;
                boolean isSo = kind == 0 ? a == b : kind == 1 ? a != b : kind == 2 ? a < b : b == a + 1;
                Derivationdesk d = desk(2, 2);
                d.tell(0, a, b);
                lay(d, 1, head(1, 0, 1), with(0, 0, 1), compares(kind, 0, 1));
                lay(d, 1, head(1, 14 - a, 14 - b), compares(kind, 10 + a, 10 + b));
                due("variables, kind " + kind + " of " + a + " and " + b, d.matches(0), isSo ? 1 : 0);
                due("constants, kind " + kind + " of " + a + " and " + b, d.matches(1), isSo ? 1 : 0);
            }
        }
        due("a term with itself is the same", makes(new int[] {0, 1}, with(0, 0, 1), compares(0, 1, 1)), "1(0,0) 1(0,1)");
        due("and not unlike", makes(new int[] {0, 1}, with(0, 0, 1), compares(1, 1, 1)), "");
        due("and not less", makes(new int[] {0, 1}, with(0, 0, 1), compares(2, 0, 0)), "");
        due("and not 1 less", makes(new int[] {0, 1}, with(0, 0, 1), compares(3, 0, 0)), "");

        section(1, "all WITH ones as they were drafted, then all others as they were drafted; they are numbered so, from 0");
        Derivationdesk e = desk(2, 2, 2);
        lay(e, 3, head(2, 0, 1), compares(1, 0, 1), with(1, 1, 0), without(0, 1, 1), with(0, 0, 1));
        due("rule", e.rule(0), "2(v0,v1):-1(v1,v0),0(v0,v1),v0#v1,!0(v1,v1)/3");
        due("part 0", e.whyNot(0, 0, 1), "0 0 1");
        e.tell(1, 1, 0);
        due("part 1", e.whyNot(0, 0, 1), "1 0 1");
        e.tell(0, 0, 1);
        e.tell(0, 1, 1);
        due("part 3", e.whyNot(0, 0, 1), "3 0 1");
        e.tell(1, 1, 1);
        due("part 2", e.whyNot(0, 1, 1), "2 1 1");

        section(1, "It is SAFE if each variable of it is in a WITH part.");
        Derivationdesk f = desk(2, 2, 1);
        draft(f, head(1, 0, 3), with(0, 0, 1));
        thrown(f, ARGUMENT, "a variable of the head is not", () -> f.lay(3));
        draft(f, head(1, 3, 0), with(0, 0, 1));
        thrown(f, ARGUMENT, "the first variable of the head is not", () -> f.lay(3));
        draft(f, head(1, 0, 0), with(0, 0, 1), without(2, 2, NONE));
        thrown(f, ARGUMENT, "a variable of a without part is not", () -> f.lay(3));
        draft(f, head(1, 0, 0), with(0, 0, 1), without(0, 0, 2));
        thrown(f, ARGUMENT, "the second variable of a without part is not", () -> f.lay(3));
        draft(f, head(1, 0, 0), with(0, 0, 1), compares(0, 3, 0));
        thrown(f, ARGUMENT, "the first variable of a compare is not", () -> f.lay(3));
        draft(f, head(1, 0, 0), with(0, 0, 1), compares(0, 0, 3));
        thrown(f, ARGUMENT, "the second variable of a compare is not", () -> f.lay(3));
        due("a part makes it so", f.with(2, 3, NONE), 3);
        due("lay", f.lay(3), 0);
        due("no variable at all", lay(f, 3, head(1, 10, 10), without(0, 10, 10)), 1);
        due("variables that are not in the head", lay(f, 3, head(2, 10, NONE), with(0, 2, 3)), 2);
    }

    private static void groups() {
        section(1, "a HEAD relation and an OF relation, both with 2 PLACES, and a kind");
        Derivationdesk d = desk(2, 2, 1);
        thrown(d, ARGUMENT, "a head of one place", () -> d.group(2, 0, 0, 3));
        thrown(d, ARGUMENT, "of one place", () -> d.group(0, 2, 0, 3));

        section(1, "It makes, for each x with a row (x, y) of OF in the ANSWER, the row (x, v) of the HEAD");
        due("none", groupOf(0), "");
        due("x 0 and 4", groupOf(0, 3, 41), "1(0,1) 1(4,1)");
        Derivationdesk e = desk(2, 2, 2);
        lay(e, 1, head(1, 1, 0), with(0, 0, 1));
        e.group(2, 1, 0, 3);
        tellAll(e, 0, 3, 13);
        due("rows that are made", e.rows(2, 0), "2(3,2)");
        due("not on the side where they are not", e.rows(2, 1), "");

        section(1, "kind 0 how many such y there are, 1 the least y, 2 the sum of them; but 4, if that is greater");
        due("kind 0: 1", groupOf(0, 4), "1(0,1)");
        due("kind 0: 4", groupOf(0, 1, 2, 3, 4), "1(0,4)");
        due("kind 0: 5 is greater", groupOf(0, 0, 1, 2, 3, 4), "1(0,4)");
        due("kind 1: 0", groupOf(1, 4, 0), "1(0,0)");
        due("kind 1: 4", groupOf(1, 34), "1(3,4)");
        due("kind 1 of all", groupOf(1, 43, 42, 44), "1(4,2)");
        due("kind 2: 0", groupOf(2, 20), "1(2,0)");
        due("kind 2: 4", groupOf(2, 21, 23), "1(2,4)");
        due("kind 2: 4 of one", groupOf(2, 24, 20), "1(2,4)");
        due("kind 2: 5 is greater", groupOf(2, 23, 22), "1(2,4)");
        due("kind 2: 10 is greater", groupOf(2, 20, 21, 22, 23, 24), "1(2,4)");
        due("kind 2: 3", groupOf(2, 0, 1, 2), "1(0,3)");
    }

    /** The rows of a group of this kind of these rows. */
    private static String groupOf(int kind, int... rows) {
        Derivationdesk d = desk(2, 2);
        tellAll(d, 0, rows);
        d.group(1, 0, kind, 1);
        return d.rows(1, 0);
    }

    /** Relations 0 to 7, each but the first with 0 and without the one before it. */
    private static Derivationdesk tower() {
        Derivationdesk d = desk(2, 2, 2, 2, 2, 2, 2, 2);
        for (int i = 1; i <= 7; i++) lay(d, 3, head(i, 0, 1), with(0, 0, 1), without(i - 1, 0, 1));
        return d;
    }

    private static void layers() {
        section(1, "LAYERS: the least numbers from 0 on, so that, for each RULE (of any SIDE), the LAYER of the RELATION of its HEAD"
            + " is no less than that of each WITH one, and greater than that of each WITHOUT one, and of OF.");
        Derivationdesk d = tower();
        for (int i = 0; i <= 7; i++) due("LAYER of " + i, d.ofRelation(i, 4), i);
        due("LAYERS", d.count(4), 8);
        d.scrap(3);
        for (int i = 0; i <= 7; i++) due("LAYER of " + i + " without the rule of 4", d.ofRelation(i, 4), i < 4 ? i : i - 4);
        Derivationdesk e = desk(2, 2, 2, 2, 2);
        e.group(1, 0, 0, 2);
        due("greater than of OF, by a rule of side 1", e.ofRelation(1, 4), 1);
        lay(e, 2, head(2, 0, 1), with(1, 0, 1));
        due("no less than of WITH, by a rule of side 1", e.ofRelation(2, 4), 1);
        lay(e, 1, head(0, 0, 1), with(3, 0, 1));
        due("WITH a greater number", e.ofRelation(0, 4), 0);
        lay(e, 1, head(3, 10, 10), without(4, 10, 10));
        int[] risen = {1, 2, 2, 1, 0};
        for (int i = 0; i <= 4; i++) due("3 rises by 4, and all above it, " + i, e.ofRelation(i, 4), risen[i]);
    }

    private static void rings() {
        section(1, "Where there are no such numbers, there is a RING: such a RULE is refused.");
        Derivationdesk d = tower();
        draft(d, head(0, 0, 1), with(7, 0, 1));
        thrown(d, STATE, "a ring of all eight", () -> d.lay(3));
        due("the draft is still there", d.count(7), 1);
        thrown(d, STATE, "by a closure", () -> d.closure(0, 7));
        thrown(d, STATE, "by a generation", () -> d.generation(0, 7));
        thrown(d, STATE, "by a group", () -> d.group(0, 7, 0, 3));
        thrown(d, STATE, "by a group of its own head", () -> d.group(7, 7, 0, 3));
        thrown(d, STATE, "by a group between two", () -> d.group(6, 7, 0, 3));
        due("no ring downwards", d.group(7, 6, 0, 3), 7);
        draft(d, head(3, 0, 1), with(0, 0, 1), without(3, 1, 0));
        thrown(d, STATE, "without itself", () -> d.lay(2));
        draft(d, head(3, 10, 10), without(4, 11, 11));
        thrown(d, STATE, "without one above, whatever the constants", () -> d.lay(1));
        Derivationdesk c = desk(2, 2, 2);
        lay(c, 3, head(1, 0, 1), with(0, 0, 1), without(2, 0, 1));
        draft(c, head(2, 0, 1), with(1, 0, 1));
        thrown(c, STATE, "a ring of two", () -> c.lay(3));
        c.scrap(0);
        due("the ring is gone with one of its rules", c.lay(3), 0);
        draft(c, head(1, 0, 1), with(0, 0, 1), without(2, 0, 1));
        thrown(c, STATE, "the same ring from its other end", () -> c.lay(3));
        Derivationdesk e = desk(2, 2, 2);
        lay(e, 3, head(0, 0, 1), with(1, 0, 1));
        lay(e, 3, head(1, 0, 1), with(2, 0, 1));
        due("WITH parts round are no ring", lay(e, 3, head(2, 0, 1), with(0, 0, 1)), 2);
        due("nor WITH itself", lay(e, 3, head(2, 1, 0), with(2, 0, 1)), 3);
        due("LAYERS", e.count(4), 1);
        draft(e, head(0, 0, 1), with(1, 0, 1), without(2, 0, 1));
        thrown(e, STATE, "but WITHOUT one of them", () -> e.lay(3));
        Derivationdesk f = desk(2, 2);
        lay(f, 1, head(0, 0, 1), with(1, 0, 1));
        draft(f, head(1, 10, 10), without(0, 10, 10));
        thrown(f, STATE, "of two sides", () -> f.lay(2));
        due("TIME", f.count(5), 1);
        due("LAYERS", f.count(4), 1);
    }

    private static void matches() {
        section(1, "A MATCH of a RULE: values (CONSTANTS) of its variables with which each of its PARTS is so: a WITH row is in the"
            + " ANSWER, a WITHOUT row is not, what is COMPARED is as told.");
        Derivationdesk d = desk(2, 2, 1);
        lay(d, 1, head(1, 0, 1), with(0, 0, 1), with(2, 0, NONE), without(2, 1, NONE), compares(2, 0, 1));
        due("nothing is there", d.matches(0), 0);
        tellAll(d, 0, 4, 40, 44, 1);
        tellSingle(d, 2, 0, 4);
        due("rows", d.rows(1, 0), "1(0,1)");
        due("matches", d.matches(0), 1);
        Derivationdesk e = desk(2, 1);
        lay(e, 1, head(1, 10, NONE), with(0, 0, 1));
        lay(e, 1, head(1, 14, NONE), without(0, 12, 12));
        due("without variables there is one", e.matches(1), 1);
        due("row", e.rows(1, 0), "1(4)");
        for (int cell = 0; cell < 25; cell++) e.tell(0, cell / 5, cell % 5);
        due("or none", e.matches(1), 0);
        due("all values", e.matches(0), 25);
        due("make one row", e.rows(1, 0), "1(0)");
        Derivationdesk f = desk(2, 1);
        for (int cell = 0; cell < 25; cell++) f.tell(0, cell / 5, cell % 5);
        lay(f, 1, head(1, 0, NONE), with(0, 0, 1), with(0, 2, 3));
        due("all values of four variables", f.matches(0), 625);

        section(1, "A GROUP has a MATCH for each such x.");
        f.group(f.relation(2), 0, 0, 1);
        due("five x", f.matches(1), 5);
        Derivationdesk g = desk(2, 2);
        g.group(1, 0, 0, 1);
        due("no x", g.matches(0), 0);

        section(1, "The ANSWER of a SIDE: LAYER by LAYER, from 0 on, the least rows with the FACTS of its RELATIONS and what MATCHES"
            + " of RULES of that SIDE make, where WITHOUT and OF look at LAYERS before.");
        Derivationdesk t = tower();
        t.tell(0, 2, 3);
        for (int i = 1; i <= 7; i++) due("every other one, " + i, t.rows(i, 0), i % 2 == 0 ? i + "(2,3)" : "");
        t.tell(1, 2, 3);
        for (int i = 1; i <= 7; i++) due("a fact in it turns them, " + i, t.rows(i, 0), i % 2 == 1 ? i + "(2,3)" : "");
        Derivationdesk s = desk(2, 2, 2);
        lay(s, 1, head(1, 0, 1), with(0, 0, 1));
        lay(s, 3, head(2, 0, 1), with(0, 0, 1), without(1, 0, 1));
        s.tell(0, 3, 4);
        due("side 0 has it not", s.rows(2, 0), "");
        due("side 1 has it", s.rows(2, 1), "2(3,4)");
        Derivationdesk r = desk(2, 2);
        lay(r, 3, head(1, 0, 1), with(1, 0, 1));
        lay(r, 3, head(1, 1, 0), with(1, 0, 1));
        due("the least rows: nothing stands on itself", r.ofRelation(1, 2), 0);
    }

    private static void sideZeroAlone() {
        section(1, "RULES of SIDE 0 alone count for all that follows, where nothing else is said");
        Derivationdesk d = desk(2, 2, 2);
        lay(d, 2, head(1, 0, 1), with(0, 0, 1));
        lay(d, 1, head(2, 0, 1), with(0, 0, 1));
        d.tell(0, 0, 1);
        d.tell(1, 0, 1);
        due("rounds: one layer has such rules", d.work(0, 0), 2);
        due("firings", d.work(0, 1), 2);
        due("demands", d.demands(1, 0, 1, 0), 1);
        due("demands of side 0", d.demands(2, 0, 1, 0), 2);
        due("reasons", d.reasons(1, 0, 1), 1);
        due("height", d.height(2, 0, 1), 1);
        d.untell(1, 0, 1);
        due("height", d.height(1, 0, 1), -1);
        due("proof", d.proof(1, 0, 1), 0);
        due("wish", d.wish(0, 1, 3, 3), "none");
        due("would", d.would(0, 3, 3, true), 2);
        due("held", d.held(4, 1, 0, 1), true);
        due("held then", d.held(5, 1, 0, 1), false);
        due("sound", d.isSound(), true);
        d.untell(0, 0, 1);
        d.sides(1, 2);
        due("no rounds", d.work(0, 0), 0);

        section(1, "but RULES of any SIDES have numbers and are counted when it is asked how many RULES there are, and a call with the"
            + " number of one tells of that one, whatever its SIDES.");
        d.tell(0, 0, 1);
        due("RULES", d.count(3), 2);
        due("rule", d.rule(0), "1(v0,v1):-0(v0,v1)/2");
        due("matches", d.matches(0), 1);
        due("whyNot", d.whyNot(0, 0, 1), "so");
        due("whyNot", d.whyNot(0, 0, 2), "0 0 2");
        due("visits", d.visits(0, true), 1);
        due("plan", d.plan(0), "0");
        due("contained", d.contained(0, 0), true);
        lay(d, 1, head(1, 0, 1), with(0, 0, 1), with(0, 0, 1));
        due("reasons have the rule's number", d.reason(1, 0, 1, 0), "r2 0 1");
        due("needless", d.needless(0), true);
    }

    // ---- 2. Ways

    private static void overAndOver() {
        section(2, "LAYER by LAYER (of those with RULES of SIDE 0 for its RELATIONS, whether these have a MATCH or not) in ROUNDS");
        Derivationdesk d = desk(2, 2, 2, 2);
        due("no rules", d.work(0, 0), 0);
        lay(d, 1, head(1, 0, 1), with(0, 0, 1));
        due("no match: one round", d.work(0, 0), 1);
        due("no firings", d.work(0, 1), 0);
        d.group(2, 1, 0, 1);
        due("a second layer", d.work(0, 0), 2);
        d.group(3, 2, 0, 2);
        due("a third layer, of side 1", d.work(0, 0), 2);
        lay(d, 1, head(2, 10, 10), with(0, 0, 1));
        due("another rule of the second layer", d.work(0, 0), 2);
        d.sides(0, 2);
        due("the first layer has none of side 0 then", d.work(0, 0), 1);
        due("by what is new, too", d.work(1, 0), 1);

        section(2, "each MATCH of these RULES fires, by the rows as they were before the ROUND (FACTS are there before the first one);"
            + " the rows made are there after it.");
        Derivationdesk e = desk(2, 2, 2);
        lay(e, 1, head(1, 0, 1), with(0, 0, 1));
        lay(e, 1, head(2, 0, 1), with(1, 0, 1));
        e.tell(0, 0, 1);
        due("rounds: 1(0,1), 2(0,1), nothing", e.work(0, 0), 3);
        due("firings", e.work(0, 1), 1 + 2 + 2);
        e.tell(1, 0, 1);
        due("a fact of the layer is there before: 2(0,1), nothing", e.work(0, 0), 2);
        due("firings", e.work(0, 1), 2 + 2);
        e.tell(2, 4, 4);
        due("a fact that no rule looks at", e.work(0, 0), 2);

        section(2, "The ROUND that brings no new row is the last one of the LAYER (it is counted).");
        e.tell(2, 0, 1);
        due("it is the first one, if all are facts", e.work(0, 0), 1);
        due("in which they fire", e.work(0, 1), 2);
        due("by what is new, too", e.work(1, 0), 1);
        due("in which they fire", e.work(1, 1), 2);
    }

    private static void onlyNew() {
        section(2, "in all ROUNDS of a LAYER after its first one only those MATCHES fire of which a WITH row came in the ROUND before");
        Derivationdesk d = desk(2, 2);
        d.closure(1, 0);
        tellAll(d, 0, 1, 12, 23, 34);
        // Rounds: 4; then 3, 2, 1; then nothing. Old rows fire no more.
        due("rounds", d.work(1, 0), 5);
        due("firings", d.work(1, 1), 4 + 3 + 2 + 1);
        due("over and over", d.work(0, 1), 4 + (4 + 3) + (4 + 3 + 2) + (4 + 3 + 2 + 1) + (4 + 3 + 2 + 1));
        Derivationdesk e = desk(2, 2, 2);
        lay(e, 1, head(1, 10, 10), without(0, 10, 10));
        lay(e, 1, head(1, 11, 11), with(1, 10, 10));
        due("a rule without WITH parts fires in the first round alone", e.work(1, 1), 2);
        due("but over and over in each", e.work(0, 1), 1 + 2 + 2);
        due("rounds", e.work(1, 0), 3);
        Derivationdesk f = desk(2, 2, 2);
        lay(f, 1, head(1, 0, 1), with(0, 0, 1));
        lay(f, 1, head(2, 0, 0), with(0, 0, 1), without(1, 1, 0));
        f.tell(0, 2, 3);
        due("rows of a layer before fire in the first round of the next", f.work(1, 1), 2);
        due("rounds", f.work(1, 0), 4);
        Derivationdesk g = desk(2, 2);
        lay(g, 1, head(1, 0, 1), with(1, 0, 1), with(1, 0, 1));
        lay(g, 1, head(1, 0, 0), with(0, 0, 0));
        g.tell(0, 1, 1);
        due("a match of two new rows fires once", g.work(1, 1), 2);

        section(2, "FIRINGS: how many MATCHES fired in all ROUNDS.");
        Derivationdesk h = desk(2, 1);
        lay(h, 1, head(1, 10, NONE), with(0, 0, 1));
        due("none", h.work(0, 1), 0);
        tellAll(h, 0, 0, 1, 2);
        due("three that make one row, twice", h.work(0, 1), 6);
        due("three that make one row", h.work(1, 1), 3);
    }

    private static void patterns() {
        section(2, "PATTERN: a RELATION with a CONSTANT or NONE in each PLACE; a row fits, if it has those CONSTANTS.");
        Derivationdesk d = desk(2, 1);
        tellAll(d, 0, 0, 4, 40, 44);
        tellSingle(d, 1, 0, 4);
        due("no constant", d.question(0, NONE, NONE), "0(0,0) 0(0,4) 0(4,0) 0(4,4)");
        due("the first", d.question(0, 0, NONE), "0(0,0) 0(0,4)");
        due("the second", d.question(0, NONE, 0), "0(0,0) 0(4,0)");
        due("the second", d.question(0, NONE, 4), "0(0,4) 0(4,4)");
        due("both", d.question(0, 4, 4), "0(4,4)");
        due("none fits", d.question(0, 1, NONE), "");
        due("one place", d.question(1, 4, NONE), "1(4)");
        due("one place, no constant", d.question(1, NONE, NONE), "1(0) 1(4)");

        section(2, "DEMANDS of a QUESTION (a PATTERN): the least set of PATTERNS with the QUESTION in it");
        due("it is one itself", d.demands(0, NONE, NONE, 0), 1);
        Derivationdesk e = desk(2, 2);
        lay(e, 1, head(1, 0, 1), with(1, 0, 1));
        due("and asked again is the same", e.demands(1, 0, NONE, 0), 1);
        lay(e, 1, head(1, 0, 1), with(1, 1, 0));
        due("turned round it is another", e.demands(1, 0, NONE, 0), 2);
        due("unless both are alike", e.demands(1, 2, 2, 0), 1);

        section(2, "if the HEAD can be such a row (CONSTANTS the same, a variable the same in both PLACES), the variables of HEAD at"
            + " CONSTANTS of the PATTERN are known");
        Derivationdesk f = desk(2, 2, 2);
        lay(f, 1, head(1, 10, 0), with(0, 0, 0));
        lay(f, 1, head(2, 0, 0), with(0, 0, 1));
        due("a constant unlike", f.demands(1, 1, NONE, 0), 1);
        due("the same", f.demands(1, 0, NONE, 0), 2);
        due("no constant", f.demands(1, NONE, 3, 0), 2);
        due("unlike for a variable", f.demands(2, 1, 2, 0), 1);
        due("the same for it", f.demands(2, 1, 1, 0), 2);
        tellAll(f, 0, 11, 13, 33);
        due("the second place makes it known: 0(3,_)", f.demands(2, NONE, 3, 1), 1 + 1);
        due("the first place makes it known: 0(1,_)", f.demands(2, 1, NONE, 1), 1 + 2);
    }

    private static void demandsOfParts() {
        section(2, "of WITH: the PATTERN with all that is known (NONE for a variable that is not) is a DEMAND; for each row of the"
            + " ANSWER that fits it (and has the same for the same variable) one goes on with its CONSTANTS known");
        Derivationdesk d = desk(2, 2, 2);
        lay(d, 1, head(2, 0, 1), with(0, 0, 2), with(1, 2, 1));
        due("nothing fits: one does not go on", d.demands(2, 1, 2, 0), 2);
        tellAll(d, 0, 11, 13, 24);
        // 2(1,2); 0(1,_); 1(1,2), 1(3,2).
        due("two fit", d.demands(2, 1, 2, 0), 4);
        due("what is known goes on: 1(1,_), 1(3,_)", d.demands(2, 1, NONE, 0), 4);
        Derivationdesk e = desk(2, 2, 2);
        lay(e, 1, head(2, 0, 1), with(0, 2, 2), with(1, 2, 0), with(1, 2, 1));
        tellAll(e, 0, 1, 22);
        // 2(_,_); 0(_,_); 1(2,_) once.
        due("the same for the same variable", e.demands(2, NONE, NONE, 0), 3);
        Derivationdesk f = desk(2, 2, 1);
        lay(f, 1, head(2, 0, NONE), with(1, 14, 0), with(0, 0, 13));
        f.tell(1, 4, 2);
        // 2(_); 1(4,_); 0(2,3).
        due("constants of a part", f.demands(2, NONE, NONE, 0), 3);

        section(2, "of WITHOUT: its row is a DEMAND (as PATTERN), and one goes on if it is not in the ANSWER");
        Derivationdesk g = desk(2, 2, 2, 1);
        lay(g, 1, head(2, 0, 1), with(0, 0, 1), without(1, 0, 1), without(3, 1, NONE));
        tellAll(g, 0, 1, 2);
        g.tell(1, 0, 1);
        // 2(_,_); 0(_,_); 1(0,1), 1(0,2); 3(2) alone.
        due("one goes on", g.demands(2, NONE, NONE, 0), 5);
        g.tell(1, 0, 2);
        due("none goes on", g.demands(2, NONE, NONE, 0), 4);

        section(2, "of COMPARES: one goes on if it is so");
        Derivationdesk h = desk(2, 2, 2);
        lay(h, 1, head(2, 0, 1), with(0, 0, 1), compares(2, 0, 1), without(1, 1, 0));
        tellAll(h, 0, 1, 11, 21);
        due("one of three", h.demands(2, NONE, NONE, 0), 3);

        section(2, "For a GROUP: OF with the CONSTANT (or NONE) of the first PLACE, and NONE, is a DEMAND.");
        Derivationdesk k = desk(2, 2);
        k.group(1, 0, 0, 1);
        tellAll(k, 0, 20, 24, 33);
        due("a constant", k.demands(1, 2, 0, 0), 2);
        due("its rows, whatever the second place", k.demands(1, 2, 0, 1), 2);
        due("none", k.demands(1, NONE, 1, 0), 2);
        due("its rows", k.demands(1, NONE, 1, 1), 3 + 1);
    }

    // ---- 3. Reasons

    private static void heights() {
        section(3, "REASONS of a row of the ANSWER: that it is told, if it is a FACT; then all MATCHES that make it, by RULE, then by values.");
        Derivationdesk d = desk(2, 2, 1);
        lay(d, 1, head(2, 0, NONE), with(1, 1, 0));
        lay(d, 1, head(2, 1, NONE), with(0, 0, 1), with(0, 2, 1));
        tellAll(d, 0, 32, 2);
        tellAll(d, 1, 42, 12);
        d.tell(2, 2, NONE);
        String[] due = {"told", "r0 2 1", "r0 2 4", "r1 0 2 0", "r1 0 2 3", "r1 3 2 0", "r1 3 2 3"};
        due("REASONS", d.reasons(2, 2, NONE), due.length);
        for (int k = 0; k < due.length; k++) due("REASON " + k, d.reason(2, 2, NONE, k), due[k]);
        thrown(d, STATE, "one too great", () -> d.reason(2, 2, NONE, due.length));
        due("not in the answer", d.reasons(2, 0, NONE), 0);

        section(3, "HEIGHT: 0 of a FACT; otherwise the least, over its MATCHES, of 1 + the greatest HEIGHT of WITH rows (of a GROUP: of its"
            + " rows of OF with that x; without a WITH part: 1).");
        due("of a fact that is made, too", d.height(2, 2, NONE), 0);
        Derivationdesk e = desk(2, 2, 2);
        e.closure(1, 0);
        tellAll(e, 0, 1, 12, 2, 23);
        due("of facts", e.height(1, 0, 1), 1);
        due("the least over its matches", e.height(1, 0, 2), 1);
        due("the greatest of its WITH rows", e.height(1, 0, 3), 2);
        e.tell(1, 1, 4);
        e.group(2, 1, 0, 1);
        due("of a group: 1(0,1) and 1(0,2) have 1, 1(0,3) has 2", e.height(2, 0, 3), 3);
        due("of a group: 1(2,3) has 1", e.height(2, 2, 1), 2);
        due("of a group: the fact 1(1,4) has 0, but 1(1,3) has 2", e.height(2, 1, 3), 3);
        Derivationdesk f = desk(2, 2, 2);
        lay(f, 1, head(1, 10, 10), without(0, 10, 10));
        lay(f, 1, head(1, 11, 11), compares(0, 10, 10));
        lay(f, 1, head(2, 0, 0), with(1, 0, 0), without(0, 0, 0));
        due("without a WITH part", f.height(1, 0, 0), 1);
        due("with compares alone", f.height(1, 1, 1), 1);
        due("on it", f.height(2, 1, 1), 2);
        f.tell(1, 0, 0);
        due("a fact", f.height(1, 0, 0), 0);
        due("on it", f.height(2, 0, 0), 1);
        due("none", f.height(2, 4, 4), -1);

        Derivationdesk k = desk(2, 2, 2);
        lay(k, 1, head(1, 0, 10), with(0, 0, 1));
        lay(k, 1, head(1, 14, 0), with(1, 0, 10));
        k.group(2, 1, 0, 1);
        tellAll(k, 0, 33);
        due("of a group whose only y is 0", k.height(2, 3, 1), 2);
        k.tell(0, 0, 4);
        due("of a group with y 0 as its tallest", k.height(1, 4, 0), 2);
        k.tell(1, 4, 4);
        due("beside a fact", k.height(2, 4, 3), 3);

        section(3, "(That is the least there can be: heights are counted from FACTS up.)");
        Derivationdesk g = desk(2, 2);
        lay(g, 1, head(1, 1, 0), with(1, 0, 1));
        lay(g, 1, head(1, 0, 1), with(0, 0, 1));
        g.tell(0, 0, 1);
        due("of two that make each other", g.height(1, 0, 1), 1);
        due("the other one", g.height(1, 1, 0), 2);
        Derivationdesk h = desk(2, 2);
        h.closure(1, 0);
        tellAll(h, 0, 1, 12, 23, 34, 40);
        for (int to = 0; to < 5; to++) due("round from 0 to " + to, h.height(1, 0, to), to == 0 ? 5 : to);
    }

    private static void bestReasons() {
        section(3, "The BEST REASON: that it is told; otherwise the first MATCH that gives HEIGHT.");
        Derivationdesk d = desk(2, 2, 2);
        lay(d, 1, head(1, 0, 1), with(2, 0, 1));
        lay(d, 1, head(1, 0, 1), with(0, 0, 1), with(0, 2, 3));
        lay(d, 1, head(2, 0, 1), with(0, 0, 1));
        tellAll(d, 0, 31, 14);
        due("the first one is too tall", d.reason(1, 3, 1, 0), "r0 3 1");
        due("then by values", d.reason(1, 3, 1, NONE), "r1 3 1 1 4");
        d.tell(1, 3, 1);
        due("told", d.reason(1, 3, 1, NONE), "told");
        d.untell(1, 3, 1);
        lay(d, 1, head(1, 0, 1), with(0, 0, 1));
        due("by rule", d.reason(1, 3, 1, NONE), "r1 3 1 1 4");
        d.scrap(1);
        due("another one of this height", d.reason(1, 3, 1, NONE), "r2 3 1");

        section(3, "TEXT of a REASON: \"told\"; or \"r\", the number of the RULE, and the values of its variables, rising by number, each with"
            + " a blank ahead (\"r2 0 3\"); of a GROUP: \"r4 x\" with that x.");
        Derivationdesk e = desk(2, 2, 2);
        lay(e, 1, head(1, 3, 1), with(0, 3, 1));
        lay(e, 1, head(1, 10, 10), without(0, 10, 10));
        lay(e, 1, head(1, 2, 2), with(0, 2, 2));
        for (int rule = 3; rule < 11; rule++) lay(e, 1, head(1, 0, 1), with(0, 0, 1), compares(1, 0, 0));
        e.group(2, 0, 0, 1);
        tellAll(e, 0, 40, 33);
        due("rising by number, not as they stand", e.reason(1, 4, 0, 0), "r0 0 4");
        due("no variable", e.reason(1, 0, 0, 0), "r1");
        due("one variable", e.reason(1, 3, 3, 1), "r2 3");
        due("a group; a number of two digits", e.reason(2, 4, 1, 0), "r11 4");
        due("told", e.reason(0, 4, 0, 0), "told");

        section(3, "PROOF of a row: the set with it, and with the WITH rows (rows of OF) of the BEST REASON of each of its rows; by HEIGHT,"
            + " then by RELATION, then by row.");
        Derivationdesk f = desk(2, 2, 2, 1);
        f.closure(1, 0);
        tellAll(f, 0, 41, 10);
        tellSingle(f, 3, 4);
        lay(f, 1, head(2, 0, 1), with(3, 0, NONE), with(1, 0, 1), with(1, 0, 1));
        String[] lines = {"0(1,0) told", "0(4,1) told", "3(4) told", "1(4,1) r0 4 1", "1(4,0) r1 4 1 0", "2(4,0) r2 4 0"};
        due("PROOF", f.proof(2, 4, 0), lines.length);
        for (int k = 0; k < lines.length; k++) due("row " + k, f.line(2, 4, 0, k), lines[k]);
        thrown(f, STATE, "one too great", () -> f.line(2, 4, 0, lines.length));
        due("a fact alone", f.proof(3, 4, NONE), 1);
        due("no row", f.proof(2, 0, 4), 0);
        thrown(f, STATE, "no row", () -> f.line(2, 0, 4, 0));
        Derivationdesk g = desk(2, 2, 1);
        g.group(1, 0, 2, 1);
        tellAll(g, 0, 1, 3, 11);
        due("all rows of OF with that x", g.proof(1, 0, 4), 3);
        due("the last one", g.line(1, 0, 4, 2), "1(0,4) r0 0");
        g.tell(0, 0, 0);
        due("with that of y 0", g.proof(1, 0, 4), 4);
        due("it is the first one", g.line(1, 0, 4, 0), "0(0,0) told");
        lay(g, 1, head(2, 13, NONE), without(0, 14, 14));
        due("without a WITH part: alone", g.proof(2, 3, NONE), 1);
    }

    private static void whyNots() {
        section(3, "of all values of its variables with which the HEAD is that row, that whose first PART that is not so has the greatest"
            + " number (of several: by values)");
        Derivationdesk d = desk(2, 2, 1);
        lay(d, 1, head(1, 0, 1), with(0, 0, 2), with(0, 2, 1), compares(1, 2, 1), without(2, 2, NONE));
        due("nothing: the first values", d.whyNot(0, 1, 4), "0 1 4 0");
        d.tell(0, 1, 3);
        due("the first part is so for 3 alone", d.whyNot(0, 1, 4), "1 1 4 3");
        d.tell(0, 1, 2);
        due("of two by values", d.whyNot(0, 1, 4), "1 1 4 2");
        d.tell(0, 1, 4);
        d.tell(0, 4, 4);
        due("a compare", d.whyNot(0, 1, 4), "2 1 4 4");
        d.tell(0, 3, 4);
        due("all are so", d.whyNot(0, 1, 4), "so");
        d.tell(2, 3, NONE);
        due("a WITHOUT", d.whyNot(0, 1, 4), "3 1 4 3");
        Derivationdesk e = desk(2, 2, 1);
        lay(e, 1, head(1, 0, 0), with(0, 0, 1));
        lay(e, 1, head(1, 12, 0), with(0, 0, 0));
        lay(e, 1, head(2, 10, NONE), compares(0, 11, 12), with(0, 13, 14));
        due("a variable in both places", e.whyNot(0, 1, 2), "head");
        due("the same", e.whyNot(0, 2, 2), "0 2 0");
        due("a constant unlike", e.whyNot(1, 1, 2), "head");
        due("the same constant", e.whyNot(1, 2, 1), "0 1");
        due("no variables: no values", e.whyNot(2, 0, NONE), "0");
        e.tell(0, 3, 4);
        due("no variables: the second part", e.whyNot(2, 0, NONE), "1");
        due("of one place, unlike", e.whyNot(2, 1, NONE), "head");
    }

    private static void clinging() {
        section(3, "CLUNG: when a FACT is taken back, LAYER by LAYER: of the rows that the ANSWER had, the greatest set of which each one is"
            + " a FACT, or is made by a MATCH with WITH rows of this set (or of LAYERS before, as they are then), WITHOUT and OF as they"
            + " are then; those of them that are not in the ANSWER then are CLUNG: they stood on nothing but themselves.");
        Derivationdesk d = desk(2, 2, 2);
        lay(d, 1, head(1, 0, 1), with(0, 0, 1));
        lay(d, 1, head(1, 1, 0), with(1, 0, 1));
        lay(d, 1, head(2, 0, 1), with(0, 0, 1));
        d.tell(0, 0, 1);
        due("0 at first", d.count(6), 0);
        d.untell(0, 0, 1);
        due("two that hold each other, but not 2(0,1)", d.count(6), 2);
        d.tell(0, 3, 3);
        due("telling does not tell it anew", d.count(6), 2);
        d.tell(1, 3, 3);
        d.untell(0, 3, 3);
        due("what a fact holds is in the answer then", d.count(6), 0);
        d.untell(1, 3, 3);
        due("a row that holds itself", d.count(6), 1);
        thrown(d, STATE, "a refused call", () -> d.untell(1, 3, 3));
        due("leaves it", d.count(6), 1);

        Derivationdesk e = desk(1, 1, 1, 1);
        lay(e, 1, head(1, 0, NONE), with(0, 0, NONE));
        lay(e, 1, head(1, 0, NONE), with(1, 0, NONE));
        lay(e, 1, head(2, 0, NONE), with(1, 0, NONE), without(3, 0, NONE));
        tellSingle(e, 0, 2);
        due("rows", e.count(2), 3);
        e.untell(0, 2, NONE);
        due("1(2) clings, but 2(2) has it in a layer before, where it is gone", e.count(6), 1);
        lay(e, 1, head(2, 0, NONE), with(2, 0, NONE));
        tellSingle(e, 0, 2);
        e.untell(0, 2, NONE);
        due("2(2) holds itself, too", e.count(6), 2);

        Derivationdesk b = desk(1, 1, 1, 1);
        lay(b, 1, head(1, 0, NONE), with(0, 0, NONE));
        lay(b, 1, head(2, 0, NONE), with(2, 0, NONE), with(1, 0, NONE), without(3, 0, NONE));
        lay(b, 1, head(2, 0, NONE), with(3, 1, NONE), with(0, 0, NONE), with(0, 1, NONE), without(3, 0, NONE));
        tellSingle(b, 0, 0, 1, 2);
        tellSingle(b, 3, 1);
        due("2(0) and 2(2) are made with 3(1)", b.rows(2, 0), "2(0) 2(2)");
        b.untell(3, 1, NONE);
        due("they cling to themselves and to rows of a layer before that are made then, too", b.count(6), 2);

        Derivationdesk f = desk(1, 1, 1, 1);
        lay(f, 1, head(1, 0, NONE), with(0, 0, NONE));
        lay(f, 1, head(2, 0, NONE), with(3, 0, NONE), without(1, 0, NONE));
        lay(f, 1, head(2, 0, NONE), with(2, 0, NONE), without(1, 0, NONE));
        tellSingle(f, 3, 0);
        f.untell(3, 0, NONE);
        due("2(0) holds itself without 1(0)", f.count(6), 1);
        // Of relation 1 without 0: 1(0) comes when 0(0) goes.
        f.scrap(0);
        lay(f, 1, head(1, 10, NONE), without(0, 10, NONE));
        lay(f, 1, head(2, 0, NONE), with(0, 0, NONE));
        tellSingle(f, 0, 0);
        due("2(0) is there", f.holds(2, 0, NONE), true);
        f.untell(0, 0, NONE);
        due("2(0) does not hold itself where 1(0) has come", f.count(6), 0);
        due("gone", f.holds(2, 0, NONE), false);

        Derivationdesk g = desk(2, 2, 2);
        g.group(1, 0, 0, 1);
        lay(g, 1, head(2, 0, 1), with(1, 0, 1));
        lay(g, 1, head(2, 0, 1), with(2, 0, 1));
        tellAll(g, 0, 0, 1);
        g.untell(0, 0, 1);
        due("the group makes another row; 2(0,2) clings", g.rows(2, 0), "2(0,1)");
        due("CLUNG", g.count(6), 1);
        g.untell(0, 0, 0);
        due("the last row of x", g.count(6), 1);
        g.sides(2, 2);
        g.tell(0, 0, 0);
        g.untell(0, 0, 0);
        due("rules of side 1 hold nothing", g.count(6), 0);
    }

    /** The first of all: relation 0, its row (0,0) and rule 0. */
    private static void firstOfAll() {
        section(3, "(or of LAYERS before, as they are then)");
        Derivationdesk d = desk(2, 1);
        lay(d, 1, head(0, 0, 1), with(0, 0, 1));
        lay(d, 1, head(0, 0, 0), with(1, 0, NONE));
        d.tell(1, 0, NONE);
        due("0(0,0) is made: its height", d.height(0, 0, 0), 1);
        due("its reasons", d.reasons(0, 0, 0), 2);
        due("the first one, on itself", d.reason(0, 0, 0, 0), "r0 0 0");
        due("the best one", d.reason(0, 0, 0, NONE), "r1 0");
        due("its proof", d.proof(0, 0, 0), 2);
        due("the first row of it", d.line(0, 0, 0, 0), "1(0) told");
        due("the last row of it", d.line(0, 0, 0, 1), "0(0,0) r1 0");
        d.untell(1, 0, NONE);
        due("it clings by rule 0", d.count(6), 1);
        lay(d, 1, head(1, 0, NONE), with(0, 0, 1));
        d.tell(0, 0, 1);
        due("height", d.height(0, 0, 0), 2);
        d.untell(0, 0, 1);
        due("1(0) and two of relation 0 hold each other", d.count(6), 3);
        d.tell(0, 0, 0);
        due("0(0,0) is told: its height", d.height(0, 0, 0), 0);
        due("its best reason", d.reason(0, 0, 0, NONE), "told");
        due("since", d.since(0, 0, 0), d.count(5));
        Derivationdesk e = desk(2, 2);
        lay(e, 1, head(1, 0, 1), with(0, 0, 1), without(0, 1, 0));
        lay(e, 1, head(0, 1, 0), with(0, 0, 1), compares(0, 10, 11));
        tellAll(e, 0, 3);
        e.untell(0, 0, 3);
        due("relation 0 is in a layer before: 1(0,3) does not cling", e.count(6), 0);
    }

    // ---- 4. Joins, contained and needless rules, wishes

    private static void joins() {
        section(4, "A RULE is PLAIN if it has WITH parts alone.");
        Derivationdesk d = desk(2, 2);
        lay(d, 3, head(1, 0, 1), with(0, 0, 1), with(0, 0, 1), with(0, 0, 1), with(0, 0, 1));
        lay(d, 3, head(1, 0, 1), with(0, 0, 1), compares(0, 10, 10));
        lay(d, 3, head(1, 0, 1), with(0, 0, 1), without(0, 10, 10));
        d.group(1, 0, 0, 3);
        due("plain", d.contained(0, 0), true);
        for (int rule = 1; rule <= 3; rule++) {
            int other = rule;
            thrown(d, STATE, "rule " + rule, () -> d.contained(other, 0));
            thrown(d, STATE, "other " + rule, () -> d.contained(0, other));
        }

        section(4, "VISITS of an order of the WITH parts of a RULE: the sum, for k from 1 on, of in how many ways the variables of its first"
            + " k ones can have values with which these k are so.");
        Derivationdesk e = desk(2, 2, 1);
        lay(e, 1, head(1, 0, 1), with(0, 0, 1), with(0, 1, 2), compares(1, 0, 0), without(2, 0, NONE));
        due("no rows", e.visits(0, false), 0);
        tellAll(e, 0, 1, 2, 13);
        // 3 rows; then (0,1),(1,3).
        due("the other parts are not looked at", e.visits(0, false), 3 + 1);
        lay(e, 1, head(1, 10, 10), with(0, 10, 11), with(0, 10, 14), with(0, 10, 12));
        due("no variables: one way while it is so", e.visits(1, false), 1);
        lay(e, 1, head(1, 10, 10), compares(0, 10, 10));
        due("no WITH parts", e.visits(2, false), 0);
        due("no WITH parts", e.visits(2, true), 0);
        Derivationdesk all = desk(2, 2);
        for (int cell = 0; cell < 25; cell++) all.tell(0, cell / 5, cell % 5);
        lay(all, 1, head(1, 0, 1), with(0, 0, 1), with(0, 2, 3), with(0, 0, 2), with(0, 1, 3));
        due("all values", all.visits(0, false), 25 + 625 + 625 + 625);
        due("in the order of its plan: 0, 2, 1, 3", all.visits(0, true), 25 + 125 + 625 + 625);

        section(4, "again and again the WITH part with the most known PLACES (a CONSTANT, or a variable of one taken before); of these that"
            + " whose RELATION has the fewest rows in the ANSWER; of these the smallest number");
        due("plan", all.plan(0), "0213");
        Derivationdesk f = desk(2, 2, 1);
        tellAll(f, 0, 0, 1, 2);
        tellAll(f, 1, 11, 12);
        tellSingle(f, 2, 0, 1);
        lay(f, 1, head(2, 0, NONE), with(0, 0, 1), with(1, 2, 3), with(2, 3, NONE));
        due("the fewest rows; 1 and 2 have as many; then 2(v3) is known", f.plan(0), "120");
        lay(f, 1, head(2, 0, NONE), with(2, 0, NONE), with(0, 1, 10), with(0, 11, 12), with(0, 2, 2));
        due("constants", f.plan(1), "2103");
        lay(f, 1, head(2, 0, NONE), with(0, 0, 0), with(1, 1, 1));
        due("a variable twice in a part is not known", f.plan(2), "10");
        lay(f, 1, head(2, 0, NONE), with(0, 0, 1), with(0, 1, 1), with(1, 2, 0));
        due("a variable twice in a part is known twice, when it was taken", f.plan(3), "201");
        lay(f, 1, head(2, 0, NONE), with(1, 0, 1), with(1, 1, 2), with(0, 1, 0));
        due("two known places before fewer rows", f.plan(4), "021");
        lay(f, 1, head(2, 10, NONE), without(0, 10, 10));
        due("no WITH parts", f.plan(5), "");
    }

    private static void containing() {
        section(4, "A PLAIN RULE r is CONTAINED in a PLAIN one s (of any SIDES), if the variables of s can be put as TERMS of r (its"
            + " variables, and the CONSTANTS in it) so that HEAD of s becomes HEAD of r, and each WITH of s becomes a WITH of r.");
        Derivationdesk d = desk(2, 2, 1);
        lay(d, 1, head(1, 0, 1), with(0, 0, 1));
        lay(d, 2, head(1, 2, 3), with(0, 2, 3), with(0, 2, 3), with(0, 2, 3));
        due("of sides that have nothing in common", d.contained(0, 1), true);
        due("the other way", d.contained(1, 0), true);
        lay(d, 1, head(1, 0, 1), with(0, 1, 0));
        due("turned round", d.contained(0, 2), false);
        lay(d, 1, head(1, 10, 14), with(0, 10, 14));
        due("constants of r", d.contained(3, 0), true);
        due("constants of s are themselves alone", d.contained(0, 3), false);
        lay(d, 1, head(1, 10, 13), with(0, 10, 13));
        due("other constants", d.contained(3, 4), false);
        lay(d, 1, head(0, 0, 1), with(1, 0, 1));
        due("another relation of the head", d.contained(5, 0), false);
        lay(d, 1, head(2, 0, NONE), with(2, 0, NONE));
        lay(d, 1, head(2, 1, NONE), with(2, 1, NONE), with(2, 10, NONE));
        due("one place", d.contained(7, 6), true);
        due("one place and a constant", d.contained(6, 7), false);

        section(4, "The WITNESS: the first by TERMS of the variables of s, variables rising (TERMS by their numbers).");
        Derivationdesk e = desk(2, 2);
        lay(e, 1, head(1, 10, 10), with(0, 14, 10), with(0, 3, 10), with(0, 2, 10), with(0, 13, 3));
        lay(e, 1, head(1, 1, 1), with(0, 0, 1));
        due("a variable before a constant", e.witness(0, 1), "2 10");
        lay(e, 1, head(1, 10, 10), with(0, 0, 1));
        due("the first of all", e.witness(0, 2), "2 10");
        lay(e, 1, head(1, 10, 10), with(0, 0, 1), with(0, 2, 0));
        due("variables rising", e.witness(0, 3), "3 10 13");
        lay(e, 1, head(1, 10, 10), with(0, 14, 10), with(0, 13, 10));
        due("constants by their numbers", e.witness(4, 2), "13 10");
        lay(e, 1, head(1, 10, 10), with(0, 14, 10));
        due("no variables of s: nothing to tell", e.witness(4, 5), "");
        due("none", e.witness(5, 4), "none");
    }

    private static void needless() {
        section(4, "A RULE (of any SIDES, not a GROUP) is NEEDLESS, if this is so: its variables are taken as new CONSTANTS, all unlike; its"
            + " WITH parts are the only FACTS; then the other PLAIN RULES of SIDE 0, over and over, make its HEAD (or it is one of these"
            + " FACTS).");
        Derivationdesk d = desk(2, 2, 1);
        lay(d, 1, head(1, 0, 1), with(0, 0, 1));
        due("not by itself", d.needless(0), false);
        lay(d, 2, head(1, 0, 1), with(0, 0, 1));
        due("nor by one of side 1", d.needless(0), false);
        due("but one of side 1 by one of side 0", d.needless(1), true);
        d.sides(1, 3);
        due("each by the other", d.needless(0), true);
        due("each by the other", d.needless(1), true);
        d.scrap(1);
        lay(d, 1, head(1, 0, 1), with(0, 0, 1), with(2, 0, NONE), without(2, 1, NONE), compares(1, 0, 1));
        due("other parts do not matter", d.needless(1), true);
        lay(d, 1, head(0, 0, 1), with(0, 1, 0));
        due("over and over: 0(v0,v1) makes nothing of 1(v0,v1)", d.needless(0), false);
        lay(d, 1, head(1, 0, 1), with(0, 1, 0));
        due("over and over, by two others", d.needless(3), true);
        lay(d, 1, head(2, 0, NONE), with(2, 0, NONE), with(0, 0, 1));
        due("its HEAD is one of these FACTS", d.needless(4), true);
        lay(d, 1, head(2, 0, NONE), with(0, 0, 1));
        lay(d, 1, head(2, 10, NONE), with(0, 10, 0));
        due("a constant fits a variable", d.needless(6), true);
        due("a variable fits no constant", d.needless(5), false);
        lay(d, 1, head(2, 0, NONE), with(0, 0, 0));
        due("the same variable twice fits two", d.needless(7), true);
        lay(d, 1, head(2, 10, NONE), compares(0, 10, 10));
        due("no WITH parts", d.needless(8), false);
        d.scrap(5);
        due("two new constants are unlike", d.needless(5), false);
        due("and unlike all others", d.needless(6), false);
        d.group(1, 0, 0, 3);
        d.group(1, 0, 0, 3);
        due("a GROUP is not", d.needless(8), false);
        Derivationdesk e = desk(2, 2);
        lay(e, 1, head(1, 0, 1), with(0, 0, 1));
        lay(e, 1, head(1, 0, 1), with(0, 0, 1), without(0, 1, 0));
        due("others that are not PLAIN do not count", e.needless(0), false);
        due("the one that is PLAIN does", e.needless(1), true);
        e.tell(0, 0, 1);
        due("the FACTS of the desk do not count", e.needless(0), false);
    }

    private static void times() {
        section(4, "TIME: 0 at first; each call that tells or takes back a FACT (that it changes), lays, changes or scraps RULES makes it"
            + " greater by 1 (one call by 1; sides() also if SIDES stay).");
        Derivationdesk d = new Derivationdesk();
        due("0 at first", d.count(5), 0);
        d.relation(2);
        d.relation(2);
        d.knock();
        d.draft(1, 0, 1);
        d.with(0, 0, 1);
        d.compare(1, 0, 1);
        due("not by these", d.count(5), 0);
        d.tell(0, 0, 1);
        due("tell", d.count(5), 1);
        thrown(d, STATE, "told already", () -> d.tell(0, 0, 1));
        thrown(d, STATE, "not told", () -> d.untell(0, 4, 4));
        d.would(0, 4, 4, true);
        d.wish(0, 1, 2, 2);
        d.differ(0, 1, 3);
        due("not by these", d.count(5), 1);
        d.untell(0, 0, 1);
        due("untell", d.count(5), 2);
        d.lay(3);
        due("lay", d.count(5), 3);
        d.group(1, 0, 0, 2);
        due("group", d.count(5), 4);
        d.closure(1, 0);
        due("closure, of two rules", d.count(5), 5);
        d.generation(1, 0);
        due("generation, of two rules", d.count(5), 6);
        d.sides(0, 3);
        due("sides, as they were", d.count(5), 7);
        d.scrap(0);
        due("scrap", d.count(5), 8);
        thrown(d, INDEX, "no rule", () -> d.scrap(5));
        thrown(d, INDEX, "no rule", () -> d.sides(5, 3));
        due("not by these", d.count(5), 8);

        section(4, "The ANSWERS of the last 30 TIMES (with the one of now) are kept.");
        Derivationdesk e = desk(2);
        for (int t = 1; t <= 28; t++) {
            if (t % 2 == 1) e.tell(0, 0, 1);
            else e.untell(0, 0, 1);
        }
        due("29 TIMES: the first one", e.held(0, 0, 0, 1), false);
        e.tell(0, 0, 1);
        due("30 TIMES: the first one", e.held(0, 0, 0, 1), false);
        for (int t = 0; t <= 29; t++) due("held at " + t, e.held(t, 0, 0, 1), t % 2 == 1);
        e.tell(0, 2, 2);
        thrown(e, INDEX, "31 TIMES: the first one is gone", () -> e.held(0, 0, 0, 1));
        for (int t = 1; t <= 30; t++) due("held at " + t, e.held(t, 0, 0, 1), t % 2 == 1 || t == 30);
        thrown(e, INDEX, "one to come", () -> e.held(31, 0, 0, 1));

        section(4, "The LAMP at the desk: who knocks is REFUSED, and is counted (nobody else is).");
        Derivationdesk f = desk(2);
        due("0 at first", f.count(9), 0);
        thrown(f, ARGUMENT, "a refused call", () -> f.relation(3));
        thrown(f, INDEX, "a refused call", () -> f.scrap(0));
        due("is not counted", f.count(9), 0);
        due("a knock", f.knock(), 1);
        due("another one", f.knock(), 2);
        due("they are", f.count(9), 2);
    }

    public static void main(String[] args) throws IOException {
        open();
        around();
        relations();
        terms();
        compared();
        groups();
        layers();
        rings();
        matches();
        sideZeroAlone();
        overAndOver();
        onlyNew();
        patterns();
        demandsOfParts();
        heights();
        bestReasons();
        whyNots();
        clinging();
        firstOfAll();
        joins();
        containing();
        needless();
        times();
        end();
    }
}
