import java.io.IOException;
import java.math.BigInteger;

/** The promises in their order: each sentence that names a boundary case, beside what RefusalTest tries. */
public final class BoundaryTest extends Sentences {

    // ---- empty and full desks

    private static void empty() {
        promise(1, "Creates an empty desk.");
        Derivationdesk d = new Derivationdesk();
        int[] counts = {0, 0, 0, 0, 0, 0, 0, NONE, 0, 0};
        for (int what = 0; what <= 9; what++) due("count " + what, d.count(what), counts[what]);
        for (int i = 0; i < 4; i++) due("work", d.work(i / 2, i % 2), 0);
        due("sound", d.isSound(), true);
        thrown(d, INDEX, "no FACT to tell of", () -> d.tell(0, 0, 0));
        thrown(d, INDEX, "no RELATION to draft", () -> d.draft(0, 0, 0));
        thrown(d, STATE, "no draft", () -> d.lay(1));
        thrown(d, STATE, "no draft", () -> d.compare(0, 0, 0));
        thrown(d, INDEX, "no RULE", () -> d.rule(0));
        thrown(d, INDEX, "no RELATION at TIME 0", () -> d.held(0, 0, 0, 0));
        due("two desks have nothing in common", desk(2).tell(0, 0, 0) + new Derivationdesk().count(1), 1);

        promise(2, "Returns its number.");
        Derivationdesk e = desk(2, 1);
        due("a RELATION without rows", e.rows(0, 0) + e.rows(1, 1) + e.question(0, NONE, NONE), "");
        due("FACTS", e.ofRelation(0, 1), 0);
        due("rows", e.ofRelation(1, 2), 0);
        due("height", e.height(0, 0, 0), NONE);
        due("proof", e.proof(1, 0, NONE), 0);
        due("since", e.since(1, 0, NONE), NONE);
        due("held", e.held(0, 1, 0, NONE), false);
        due("nearest", e.nearest(0, 0, 1), NONE);
        due("rows that fit", e.demands(0, NONE, NONE, 1), 0);
        due("differ", e.differ(0, 0, 3), NONE);
        due("LAYER", e.ofRelation(1, 4), 0);
        due("LAYERS", e.count(4), 1);
    }

    /** 8 RELATIONS with all 25 rows told of six, 12 RULES, a draft of 4 PARTS. */
    private static Derivationdesk full() {
        Derivationdesk d = desk(2, 2, 2, 2, 2, 2, 2, 2);
        for (int cell = 0; cell < 150; cell++) d.tell(cell / 25, cell / 5 % 5, cell % 5);
        d.closure(6, 0);
        d.generation(6, 1);
        for (int i = 4; i < 12; i++) lay(d, 3, head(7, 0, 1), with(0, 0, 1), with(1, 1, 2), with(2, 2, 3), with(3, 3, 0));
        draft(d, head(7, 0, 1), with(0, 0, 1), without(1, 0, 1), compares(0, 0, 0), compares(0, 1, 1));
        return d;
    }

    private static void fullDesk() {
        promise(9, "there are 12 RULES");
        Derivationdesk d = full();
        int[] counts = {8, 150, 200, 12, 1, 150 + 2 + 8, 0, 4, 200, 0};
        for (int what = 0; what <= 9; what++) due("count " + what, d.count(what), counts[what]);
        thrown(d, STATE, "lay", () -> d.lay(3));
        thrown(d, STATE, "group", () -> d.group(7, 0, 0, 3));
        thrown(d, STATE, "closure", () -> d.closure(7, 0));
        thrown(d, STATE, "generation", () -> d.generation(7, 0));
        thrown(d, STATE, "a RELATION", () -> d.relation(1));
        thrown(d, STATE, "a PART", () -> d.with(0, 0, 1));
        due("the last RULE", d.matches(11), 625);
        due("visits", d.visits(11, false), 25 + 125 + 625 + 625);
        due("FIRINGS by what is new", d.work(1, 1), 25 + 125 + 125 + 625 + 8 * 625);
        due("REASONS", d.reasons(7, 4, 4), 8 * 25);
        due("the last REASON", d.reason(7, 4, 4, 199), "r11 4 4 4 4");
        due("the first one is the best", d.reason(7, 4, 4, NONE), "r4 4 4 0 0");
        due("demands", d.demands(6, NONE, NONE, 0) > 2, true);
        due("sound", d.isSound(), true);
        due("all of them", d.rows(7, 0).length(), 25 * 6 + 24);
        due("nothing can be wished", d.wish(7, 7, 4, 4), "");
        due("a RULE is scrapped", d.scrap(11), 11);
        due("then there is room for one", d.lay(3), 11);
        d.scrap(0);
        thrown(d, STATE, "but not for two", () -> d.closure(7, 0));
        d.scrap(0);
        due("but for two", d.generation(7, 0), 10);
        due("RULES", d.count(3), 12);
    }

    // ---- facts

    private static void facts() {
        promise(3, "Returns how many rows the ANSWER has more then (below 0: less).");
        Derivationdesk d = desk(2, 2, 1);
        lay(d, 1, head(1, 0, 0), with(0, 0, 0), without(2, 10, NONE));
        due("more", d.tell(0, 3, 3), 2);
        due("more", d.tell(0, 4, 4), 2);
        due("less: one comes, two go", d.tell(2, 0, NONE), 1 - 2);
        due("as many", d.tell(1, 4, 4), 1);
        promise(4, "Returns how many rows the ANSWER has less then (below 0: more).");
        due("as many: one goes, 1(3,3) comes", d.untell(2, 0, NONE), 0);
        due("as many, for it is made", d.untell(1, 4, 4), 0);
        due("less", d.untell(0, 4, 4), 2);
        d.tell(0, 4, 4);
        d.tell(2, 0, NONE);
        due("below 0: one goes, two come", d.untell(2, 0, NONE), 1 - 2);
        Derivationdesk all = desk(2, 2);
        all.closure(1, 0);
        tellAll(all, 0, 1, 12, 23, 34);
        due("most at once", all.tell(0, 4, 0), 1 + 15);
        due("and back", all.untell(0, 4, 0), 16);
    }

    private static void drafts() {
        promise(5, "Begins the draft of a RULE (another one is gone).");
        Derivationdesk d = desk(2, 2, 1);
        draft(d, head(1, 0, 1), with(0, 0, 1), without(0, 1, 0), compares(1, 0, 1), with(2, 0, NONE));
        due("PARTS", d.count(7), 4);
        due("another one", d.draft(2, 1, NONE), 1);
        due("PARTS", d.count(7), 0);
        thrown(d, ARGUMENT, "nothing of the first one is left", () -> d.lay(1));
        due("its first PART", d.with(0, 1, 1), 1);
        due("no TIME for drafts", d.count(5), 0);
        d.lay(3);
        due("RULE", d.rule(0), "2(v1):-0(v1,v1)/3");
        due("no draft then", d.count(7), NONE);
        draft(d, head(1, 3, 3), with(0, 3, 2));
        draft(d, head(1, 3, 3), with(0, 0, 1));
        thrown(d, ARGUMENT, "a variable of the one that is gone is not in a WITH part of this one", () -> d.lay(1));
        draft(d, head(1, 2, 3), with(0, 2, 3));
        draft(d, head(2, 0, NONE), with(0, 0, 0));
        due("nor is it needed", d.lay(1), 1);

        promise(5, "Returns how many PLACES it has.");
        due("two", d.draft(1, 0, 1), 2);
        due("one", d.draft(2, 0, NONE), 1);

        promise(6, "Returns how many PARTS there are.");
        due("1", d.with(0, 0, 1), 1);
        promise(7, "Returns how many PARTS there are.");
        due("2", d.without(0, 1, 0), 2);
        promise(8, "Returns how many PARTS there are.");
        due("3", d.compare(3, 0, 1), 3);
        promise(6, "it has 4 PARTS");
        due("4", d.with(2, 1, NONE), 4);
        thrown(d, STATE, "a fifth WITH", () -> d.with(2, 1, NONE));
        promise(7, "it has 4 PARTS");
        thrown(d, STATE, "a fifth WITHOUT", () -> d.without(2, 1, NONE));
        promise(8, "it has 4 PARTS");
        thrown(d, STATE, "a fifth COMPARES", () -> d.compare(0, 1, 1));
    }

    private static void laying() {
        promise(9, "Lays the draft as a RULE (there is no draft then).");
        Derivationdesk d = desk(2, 2, 2);
        draft(d, head(1, 0, 1), with(0, 0, 1));
        due("its number", d.lay(3), 0);
        due("no draft", d.count(7), NONE);
        thrown(d, STATE, "lay", () -> d.lay(3));
        thrown(d, STATE, "with", () -> d.with(0, 0, 1));
        thrown(d, STATE, "without", () -> d.without(0, 0, 1));
        thrown(d, STATE, "compare", () -> d.compare(0, 0, 1));
        due("the next number", lay(d, 1, head(1, 0, 1), with(0, 0, 1)), 1);
        d.draft(2, 3, 3);
        d.with(0, 3, 3);
        due("a new draft changes no RULE", d.rule(0) + " " + d.rule(1), "1(v0,v1):-0(v0,v1)/3 1(v0,v1):-0(v0,v1)/1");

        promise(11, "Lays two RULES of both SIDES: head(0, 1) WITH of(0, 1); head(0, 2) WITH head(0, 1), of(1, 2).");
        Derivationdesk c = desk(2, 2);
        due("the number of the first", c.closure(0, 1), 0);
        due("the first", c.rule(0), "0(v0,v1):-1(v0,v1)/3");
        due("the second", c.rule(1), "0(v0,v2):-0(v0,v1),1(v1,v2)/3");
        due("the number of the first", c.closure(0, 1), 2);
        due("round is no RING", c.closure(1, 0), 4);
        promise(12, "Lays two RULES of both SIDES: head(0, 1) WITH of(2, 0), of(2, 1); head(0, 1) WITH of(2, 0), head(2, 3), of(3, 1).");
        due("the number of the first", c.generation(0, 1), 6);
        due("the first", c.rule(6), "0(v0,v1):-1(v2,v0),1(v2,v1)/3");
        due("the second", c.rule(7), "0(v0,v1):-1(v2,v0),0(v2,v3),1(v3,v1)/3");
        due("the number of the first", c.generation(0, 1), 8);
        promise(11, "there would be more than 12 RULES");
        due("12 RULES", c.closure(0, 1), 10);
        thrown(c, STATE, "14", () -> c.closure(0, 1));
        c.scrap(3);
        thrown(c, STATE, "13", () -> c.closure(0, 1));
        promise(12, "there would be more than 12 RULES");
        thrown(c, STATE, "13", () -> c.generation(0, 1));
        c.scrap(3);
        due("12", c.generation(0, 1), 10);
        promise(10, "there are 12 RULES");
        thrown(c, STATE, "13", () -> c.group(0, 1, 0, 1));
        c.scrap(0);
        Derivationdesk g = desk(2, 2);
        for (int i = 0; i < 12; i++) due("12 GROUPS", g.group(1, 0, i % 3, i % 3 + 1), i);
        thrown(g, STATE, "13", () -> g.group(1, 0, 0, 1));
        due("the last one", g.rule(11), "1:-g2 0/3");
    }

    private static void sidesAndScraps() {
        promise(13, "Returns SIDES before.");
        Derivationdesk d = desk(2, 2);
        tellAll(d, 0, 4, 40);
        lay(d, 1, head(1, 0, 1), with(0, 0, 1));
        for (int before = 1; before <= 3; before++) {
            for (int set = 1; set <= 3; set++) {
                d.sides(0, before);
                due("before", d.sides(0, set), before);
                due("rows of side 0", d.ofRelation(1, 2), set == 2 ? 0 : 2);
                due("rows of side 1", d.ofRelation(1, 3), set == 1 ? 0 : 2);
                due("rule", d.rule(0), "1(v0,v1):-0(v0,v1)/" + set);
            }
        }

        promise(14, "Returns how many RULES are left.");
        due("none is left", d.scrap(0), 0);
        due("its rows are gone", d.rows(1, 1), "");
        Derivationdesk e = desk(2, 2, 2);
        e.group(1, 0, 0, 3);
        e.group(2, 1, 0, 3);
        e.group(2, 1, 1, 1);
        due("the middle one", e.scrap(1), 2);
        due("the one behind it moves up", e.rule(1), "2:-g1 1/1");
        due("the last one", e.scrap(1), 1);
        due("the first one", e.scrap(0), 0);
        due("LAYERS fall", e.count(4), 1);
        tellAll(e, 0, 3, 4);
        due("a RULE in place of a GROUP", lay(e, 1, head(1, 1, 0), with(0, 0, 1)), 0);
        due("another one", lay(e, 1, head(2, 0, 0), with(0, 0, 1)), 1);
        due("another one", lay(e, 1, head(2, 1, 1), with(0, 0, 1)), 2);
        due("another one", lay(e, 1, head(2, 0, 1), with(0, 0, 1), without(1, 0, 1)), 3);
        due("the first one", e.rule(0), "1(v1,v0):-0(v0,v1)/1");
        due("its rows", e.rows(1, 0), "1(3,0) 1(4,0)");
        due("rows of the others", e.rows(2, 0), "2(0,0) 2(0,3) 2(0,4) 2(3,3) 2(4,4)");
        e.scrap(0);
        due("a GROUP in place of a RULE", e.group(1, 0, 2, 1), 3);
        due("its rows", e.rows(1, 0), "1(0,4)");
        due("no row of it", e.rows(2, 0), "2(0,0) 2(0,3) 2(3,3) 2(4,4)");

        promise(15, "Returns how many were REFUSED ever, with this.");
        Derivationdesk k = new Derivationdesk();
        for (int n = 1; n <= 100; n++) due("knock", k.knock(), n);
        due("they are counted", k.count(9), 100);
        due("another desk has none", new Derivationdesk().count(9), 0);
        due("TIME", k.count(5), 0);
    }

    // ---- what is there

    private static void looks() {
        promise(17, "Returns TEXTS of its rows in the ANSWER of that SIDE, with one blank between.");
        Derivationdesk d = desk(2, 1, 2);
        due("no row", d.rows(0, 0), "");
        d.tell(0, 4, 0);
        due("one row", d.rows(0, 0), "0(4,0)");
        d.tell(0, 0, 4);
        due("two rows", d.rows(0, 1), "0(0,4) 0(4,0)");
        tellSingle(d, 1, 4, 0);
        due("two of one place", d.rows(1, 1), "1(0) 1(4)");
        StringBuilder every = new StringBuilder();
        for (int cell = 0; cell < 25; cell++) {
            d.tell(2, cell / 5, cell % 5);
            every.append(cell > 0 ? " " : "").append("2(").append(cell / 5).append(",").append(cell % 5).append(")");
        }
        due("all rows", d.rows(2, 0), every.toString());
        promise(22, "Returns TEXTS of the rows of the ANSWER that fit it, with one blank between.");
        due("all rows", d.question(2, NONE, NONE), every.toString());
        due("five", d.question(2, NONE, 4), "2(0,4) 2(1,4) 2(2,4) 2(3,4) 2(4,4)");
        due("one", d.question(2, 4, 4), "2(4,4)");
        due("none", d.question(0, 1, 1), "");

        promise(18, "0 its PLACES, 1 its FACTS, 2 how many rows it has in the ANSWER, 3 in that of SIDE 1, 4 its LAYER");
        Derivationdesk e = desk(2, 2, 1);
        tellAll(e, 0, 1, 2, 31);
        e.group(1, 0, 0, 2);
        lay(e, 1, head(1, 0, 1), with(0, 0, 1));
        e.tell(1, 4, 4);
        int[] due = {2, 1, 1 + 3, 1 + 2, 1};
        for (int what = 0; what <= 4; what++) due("what " + what, e.ofRelation(1, what), due[what]);
        due("of one PLACE", e.ofRelation(2, 0), 1);

        promise(20, "4 LAYERS (the greatest one and 1; 0 without RELATIONS)");
        due("of two layers", e.count(4), 2);
        due("of one", desk(1).count(4), 1);
        due("without RELATIONS", new Derivationdesk().count(4), 0);
        promise(20, "6 how many were CLUNG when a FACT was taken back last (0 at first)");
        due("at first", e.count(6), 0);
        promise(20, "7 PARTS of the draft (NONE without one)");
        due("without one", e.count(7), NONE);
        e.draft(0, 0, 0);
        due("without PARTS", e.count(7), 0);
        promise(20, "8 rows of the ANSWER of SIDE 1");
        due("rows", e.count(8), 3 + 3);
        promise(20, "2 rows of the ANSWER");
        due("rows", e.count(2), 3 + 4);
    }

    private static void texts() {
        promise(19, "WITH as TEXT of a row, WITHOUT with \"!\" ahead, COMPARES as both TERMS (told as in a row) with \"=\", \"#\", \"<\" or \"+\""
            + " (kinds 0 to 3) between; at last \"/\" and SIDES (\"2(v0,3):-0(v0,v1),!1(v1),v0<v1/3\")");
        Derivationdesk d = desk(2, 1, 2);
        lay(d, 3, head(2, 0, 13), with(0, 0, 1), without(1, 1, NONE), compares(2, 0, 1));
        due("the document's own", d.rule(0), "2(v0,3):-0(v0,v1),!1(v1),v0<v1/3");
        lay(d, 1, head(1, 3, NONE), compares(0, 3, 14), compares(1, 10, 3), compares(3, 3, 3), with(1, 3, NONE));
        due("all other kinds", d.rule(1), "1(v3):-1(v3),v3=4,0#v3,v3+v3/1");
        lay(d, 2, head(1, 14, NONE), without(0, 10, 14));
        due("a WITHOUT of two PLACES, alone", d.rule(2), "1(4):-!0(0,4)/2");
        promise(19, "of a GROUP: \"2:-g1 0/3\" with HEAD, kind, OF and SIDES");
        d.group(2, 0, 1, 3);
        due("the document's own", d.rule(3), "2:-g1 0/3");
        d.group(2, 0, 0, 1);
        d.group(2, 0, 2, 2);
        due("kind 0", d.rule(4), "2:-g0 0/1");
        due("kind 2", d.rule(5), "2:-g2 0/2");
        d.sides(3, 2);
        due("SIDES as they are then", d.rule(3), "2:-g1 0/2");

        promise(21, "way`: 0 over and over, 1 only what is new");
        Derivationdesk e = desk(2, 2);
        lay(e, 1, head(1, 10, 10), without(0, 10, 10));
        due("ROUNDS over and over", e.work(0, 0), 2);
        due("FIRINGS over and over", e.work(0, 1), 2);
        due("ROUNDS of what is new", e.work(1, 0), 2);
        due("FIRINGS of what is new", e.work(1, 1), 1);
        e.tell(0, 0, 0);
        due("a layer without a match", e.work(1, 0), 1);
        due("no FIRINGS", e.work(1, 1), 0);
    }

    private static void demands() {
        promise(23, "0 how many DEMANDS the QUESTION has, 1 how many rows of the ANSWER fit one or more of them");
        Derivationdesk d = desk(2, 2);
        d.closure(1, 0);
        tellAll(d, 0, 1, 12);
        // 1(_,_), 0(_,_), 0(1,_), 0(2,_); rows: three of 1 and two of 0, each once.
        due("DEMANDS", d.demands(1, NONE, NONE, 0), 4);
        due("a row that fits two is counted once", d.demands(1, NONE, NONE, 1), 5);
        due("a row alone", d.demands(0, 0, 1, 1), 1);
        due("no row", d.demands(0, 4, 4, 1), 0);
        Derivationdesk all = desk(2, 2, 2, 2, 2, 2, 2, 2);
        for (int r = 1; r < 8; r++) lay(all, 1, head(r, 0, 1), with(r - 1, 0, 2), with(r - 1, 2, 1));
        for (int cell = 0; cell < 25; cell++) all.tell(0, cell / 5, cell % 5);
        // 7(0,0); 6(0,_) and 6(a,0) with any a; of each other one (a,_) and (a,0).
        due("through all eight", all.demands(7, 0, 0, 0), 1 + (1 + 5) + 6 * (5 + 5));
        due("all rows fit, but of 7 one and of 6 nine", all.demands(7, 0, 0, 1), 1 + 9 + 6 * 25);
    }

    // ---- questions and reasons

    private static void reasons() {
        promise(24, "Returns its HEIGHT; NONE, if it is not in the ANSWER.");
        Derivationdesk d = desk(2, 2, 2);
        d.closure(1, 0);
        tellAll(d, 0, 1, 12, 23, 34);
        due("a FACT", d.height(0, 3, 4), 0);
        due("the tallest", d.height(1, 0, 4), 4);
        due("not there", d.height(1, 4, 0), NONE);
        due("of a RELATION without rows", d.height(2, 0, 0), NONE);
        promise(25, "Returns how many REASONS it has (0, if it is not in the ANSWER).");
        due("none", d.reasons(1, 4, 0), 0);
        due("one", d.reasons(1, 0, 4), 1);
        d.tell(1, 0, 4);
        due("told, too", d.reasons(1, 0, 4), 2);
        promise(26, "k`: which REASON, from 0, or NONE: the BEST one");
        due("0", d.reason(1, 0, 4, 0), "told");
        due("the last one", d.reason(1, 0, 4, 1), "r1 0 3 4");
        due("NONE", d.reason(1, 0, 4, NONE), "told");
        due("NONE", d.reason(1, 0, 3, NONE), "r1 0 2 3");
        promise(26, "IllegalStateException` if it has no such REASON");
        thrown(d, STATE, "one too great", () -> d.reason(1, 0, 4, 2));
        thrown(d, STATE, "one too great for a FACT", () -> d.reason(0, 0, 1, 1));
        thrown(d, STATE, "less than NONE", () -> d.reason(1, 0, 4, -2));
        thrown(d, STATE, "the BEST one of no row", () -> d.reason(1, 4, 0, NONE));
        thrown(d, STATE, "the least", () -> d.reason(1, 0, 4, LEAST));
        thrown(d, STATE, "the greatest", () -> d.reason(1, 0, 4, GREATEST));
        promise(27, "Returns how many rows its PROOF has (0, if it is not in the ANSWER).");
        due("none", d.proof(1, 4, 0), 0);
        due("a FACT", d.proof(1, 0, 4), 1);
        due("one reason", d.proof(1, 0, 1), 2);
        due("the longest", d.proof(1, 0, 3), 6);
        promise(28, "k`: which row of its PROOF, from 0");
        due("0", d.line(1, 0, 3, 0), "0(0,1) told");
        due("the last one is the row itself", d.line(1, 0, 3, 5), "1(0,3) r1 0 2 3");
        thrown(d, STATE, "one too great", () -> d.line(1, 0, 3, 6));
        thrown(d, STATE, "NONE is none", () -> d.line(1, 0, 3, NONE));
        thrown(d, STATE, "of no row", () -> d.line(1, 4, 0, 0));
        thrown(d, STATE, "the least", () -> d.line(1, 0, 3, LEAST));
        thrown(d, STATE, "the greatest", () -> d.line(1, 0, 3, GREATEST));
        d.untell(0, 1, 2);
        due("after a change all is found anew", d.reasons(1, 0, 3), 0);
        due("height", d.height(1, 2, 4), 2);
        due("proof", d.proof(1, 2, 4), 4);
    }

    private static void tallest() {
        promise(28, "Returns TEXT of that row, a blank, and TEXT of its BEST REASON.");
        // Each row of 1 to 4 follows from the one before it alone: 100 rows, one on the other.
        Derivationdesk d = desk(2, 2, 2, 2, 2);
        for (int r = 1; r <= 4; r++) {
            lay(d, 1, head(r, 0, 1), with(r, 0, 2), with(0, 2, 1));
            lay(d, 1, head(r, 1, 10), with(r, 0, 14), with(0, 0, 1));
            lay(d, 1, head(r, 10, 10), with(r - 1, 14, 14));
        }
        tellAll(d, 0, 1, 12, 23, 34, 44);
        for (int k = 0; k < 100; k++) due("height of the row " + k, d.height(k / 25 + 1, k / 5 % 5, k % 5), k + 1);
        due("the longest PROOF", d.proof(4, 4, 4), 100 + 5);
        due("the first row", d.line(4, 4, 4, 0), "0(0,1) told");
        due("the first one made", d.line(4, 4, 4, 5), "1(0,0) r2");
        due("one of those in the middle", d.line(4, 4, 4, 5 + 55), "3(1,0) r7 0 1");
        due("the last row", d.line(4, 4, 4, 104), "4(4,4) r9 4 4 3");
        thrown(d, STATE, "one too great", () -> d.line(4, 4, 4, 105));
        due("rounds", d.work(1, 0), 101);
        due("sound", d.isSound(), true);
        d.untell(0, 4, 4);
        due("nothing is left of them", d.count(2), 4);
    }

    private static void whyNots() {
        promise(29, "\"head\", if the HEAD cannot be that row; \"so\", if it has a MATCH that makes it; otherwise the number of the PART of WHY"
            + " NOT, and the values, each with a blank ahead (\"1 0 3 2\").");
        Derivationdesk d = desk(2, 2, 1);
        lay(d, 2, head(1, 0, 13), with(0, 0, 1), with(0, 1, 2));
        due("head", d.whyNot(0, 0, 4), "head");
        d.tell(0, 0, 3);
        due("the document's own", d.whyNot(0, 0, 3), "1 0 3 0");
        d.tell(0, 3, 2);
        due("so, though it is of SIDE 1", d.whyNot(0, 0, 3), "so");
        due("and the row is not in the ANSWER", d.holds(1, 0, 3), false);
        d.tell(1, 4, 3);
        due("a row that is told is not made by it", d.whyNot(0, 4, 3), "0 4 0 0");
        lay(d, 1, head(2, 14, NONE), without(0, 10, 13));
        due("no values", d.whyNot(1, 4, NONE), "0");
        due("head of one PLACE", d.whyNot(1, 0, NONE), "head");
        d.untell(0, 0, 3);
        due("so, without values", d.whyNot(1, 4, NONE), "so");
    }

    // ---- joins and wishes

    private static void joins() {
        promise(30, "whether in the order of its PLAN (otherwise as numbered)");
        Derivationdesk d = desk(2, 2, 1);
        tellAll(d, 0, 0, 1, 2, 3);
        tellAll(d, 1, 33);
        lay(d, 1, head(2, 0, NONE), with(0, 0, 1), with(1, 1, 2));
        due("as numbered", d.visits(0, false), 4 + 1);
        due("as planned", d.visits(0, true), 1 + 1);
        due("as numbered, again", d.visits(0, false), 4 + 1);
        d.plan(0);
        due("WHY NOT looks at PARTS as numbered, too", d.whyNot(0, 4, NONE), "0 4 0 0");
        due("the second one", d.whyNot(0, 0, NONE), "so");
        promise(31, "Returns the numbers of its WITH parts in the order of its PLAN, as digits.");
        due("two", d.plan(0), "10");
        lay(d, 1, head(2, 10, NONE), compares(0, 10, 10), without(0, 14, 14));
        due("none", d.plan(1), "");
        lay(d, 1, head(2, 0, NONE), with(2, 0, NONE));
        due("one", d.plan(2), "0");
        lay(d, 1, head(2, 0, NONE), with(0, 0, 1), with(0, 1, 2), with(0, 2, 3), with(1, 3, 0));
        due("four", d.plan(3), "3012");
        promise(32, "Returns how many MATCHES it has in the ANSWER (also if it is not of SIDE 0).");
        d.sides(0, 2);
        due("of SIDE 1", d.matches(0), 1);
        due("rows of SIDE 0 are looked at", d.rows(2, 0), "2(0)");
        due("no variable", d.matches(1), 1);

        promise(33, "Returns the fewest rows (from, x), (x, y), (y, .. to) of the ANSWER that lead from that one to this one; 0, if they are"
            + " the same; NONE, if none do.");
        Derivationdesk e = desk(2, 2);
        lay(e, 1, head(1, 1, 0), with(0, 0, 1));
        for (int a = 0; a < 5; a++) due("the same", e.nearest(0, a, a), 0);
        due("none", e.nearest(0, 0, 4), NONE);
        tellAll(e, 0, 1, 12, 23, 34);
        due("four", e.nearest(0, 0, 4), 4);
        due("none the other way", e.nearest(0, 4, 0), NONE);
        due("but of rows that are made", e.nearest(1, 4, 0), 4);
        due("the same, though a row leads there", e.nearest(0, 4, 4), 0);
        e.tell(0, 0, 3);
        due("the fewest", e.nearest(0, 0, 4), 2);
        e.tell(0, 0, 4);
        due("one", e.nearest(0, 0, 4), 1);
    }

    private static void containing() {
        promise(35, "for each variable of s, rising, its TERM (as its number), with one blank between; \"none\", if r is not CONTAINED in s");
        Derivationdesk d = desk(2, 2);
        lay(d, 1, head(1, 0, 14), with(0, 0, 3), with(0, 3, 14));
        lay(d, 3, head(1, 3, 0), with(0, 3, 1), with(0, 1, 0));
        due("rising: v0, v1, v3", d.witness(0, 1), "14 3 0");
        due("none", d.witness(1, 0), "none");
        due("itself", d.witness(0, 0), "0 3");
        due("four variables", lay(d, 2, head(1, 0, 1), with(0, 0, 2), with(0, 3, 1)), 2);
        due("four terms", d.witness(0, 2), "0 14 3 3");
        promise(34, "Returns whether r is CONTAINED in s.");
        due("yes", d.contained(0, 1), true);
        due("no", d.contained(1, 0), false);
        promise(36, "Returns whether it is NEEDLESS (a GROUP is not).");
        due("needless", d.needless(0), true);
        due("not by one of SIDE 1", d.needless(1), false);
        due("of SIDE 1", d.needless(2), false);
        d.group(1, 0, 0, 3);
        d.group(1, 0, 0, 3);
        due("a GROUP is not, though there are two alike", d.needless(3), false);
    }

    private static void wishes() {
        promise(37, "Returns TEXTS of the fewest rows, 2 at most, of the wished RELATION that are no FACTS, with which, told, too, the row of"
            + " the other one would be in the ANSWER, with one blank between (of several as few the first by rows, each by rising rows);"
            + " \"\", if none are needed; \"none\", if 2 are not enough.");
        Derivationdesk d = desk(2, 2, 1);
        lay(d, 1, head(1, 0, 1), with(0, 0, 2), with(0, 2, 1));
        lay(d, 1, head(2, 0, NONE), with(0, 0, 1), with(0, 1, 2), with(0, 2, 3), compares(1, 0, 2));
        due("two, the first by rows, rising", d.wish(0, 1, 4, 2), "0(0,2) 0(4,0)");
        due("one is fewer", d.wish(0, 1, 3, 3), "0(3,3)");
        due("two are enough for three parts", d.wish(0, 2, 4, NONE), "0(0,0) 0(4,0)");
        lay(d, 1, head(2, 10, NONE), with(0, 11, 12), with(0, 13, 12), with(0, 14, 12));
        d.scrap(1);
        due("2 are not enough", d.wish(0, 2, 0, NONE), "none");
        d.tell(0, 3, 2);
        due("but with a FACT", d.wish(0, 2, 0, NONE), "0(1,2) 0(4,2)");
        d.tell(0, 1, 2);
        due("one", d.wish(0, 2, 0, NONE), "0(4,2)");
        d.tell(0, 4, 2);
        due("none are needed", d.wish(0, 2, 0, NONE), "");
        due("none are needed, whatever is wished", d.wish(1, 2, 0, NONE), "");
        due("another one is of no use", d.wish(1, 2, 4, NONE), "none");
        due("the row itself", d.wish(2, 2, 4, NONE), "2(4)");
        due("the last row of all", d.wish(1, 1, 4, 4), "1(4,4)");
        due("nothing is told by it", d.count(1), 3);
        Derivationdesk one = desk(1);
        for (int a = 0; a <= 4; a++) due("each row of one PLACE", one.wish(0, 0, a, NONE), "0(" + a + ")");
        Derivationdesk group = desk(2, 2, 2, 2, 2);
        group.group(4, 3, 0, 1);
        group.group(3, 2, 0, 3);
        due("through two GROUPS, two rows: 3(0,2)", group.wish(2, 3, 0, 2), "2(0,0) 2(0,1)");
        due("4(0,1) of any row of 3", group.wish(2, 4, 0, 1), "2(0,0)");
        due("three would be needed", group.wish(2, 3, 0, 3), "none");
        group.sides(0, 3);
        due("nothing differs", group.differ(3, 4, 1), NONE);
        group.sides(0, 2);
        due("a GROUP of one SIDE", group.differ(3, 4, 1), 1);
        due("and what it is of", group.differ(2, 4, 2), 1);
        Derivationdesk e = desk(2, 2);
        lay(e, 1, head(1, 0, 1), with(0, 1, 0), without(0, 0, 1));
        tellAll(e, 0, 12);
        due("a row in the way", e.wish(0, 1, 1, 2), "none");
        due("no row in the way", e.wish(0, 1, 3, 2), "0(2,3)");
        lay(e, 1, head(1, 14, 14), with(0, 14, 14), with(0, 14, 13));
        due("the last two rows", e.wish(0, 1, 4, 4), "0(4,3) 0(4,4)");
    }

    private static void differing() {
        promise(38, "that with the fewest rows, and of these the least sum; told as the sum of 2^k for its rows, k of a row (a, b) being a * size"
            + " + b, of a row (a) a; NONE, if there is none.");
        Derivationdesk d = desk(2, 1, 2, 1);
        due("no RULES", d.differ(0, 3, 3), NONE);
        lay(d, 1, head(3, 10, NONE), with(0, 12, 11));
        due("(2,1) of size 3", d.differ(0, 3, 3), 1 << 2 * 3 + 1);
        due("2 is outside of size 2", d.differ(0, 3, 2), NONE);
        lay(d, 2, head(3, 10, NONE), with(0, 11, 10));
        due("the least sum: (1,0) of size 3", d.differ(0, 3, 3), 1 << 1 * 3);
        due("(1,0) of size 2", d.differ(0, 3, 2), 1 << 1 * 2);
        due("size 1", d.differ(0, 3, 1), NONE);
        lay(d, 2, head(3, 11, NONE), with(0, 10, 10));
        due("(0,0) of size 1", d.differ(0, 3, 1), 1);
        due("another given one", d.differ(2, 3, 3), NONE);
        due("another RELATION", d.differ(0, 2, 3), NONE);
        lay(d, 1, head(2, 10, 10), with(1, 12, NONE), with(1, 11, NONE));
        due("two of one PLACE", d.differ(1, 2, 3), 1 << 2 | 1 << 1);
        due("two of one PLACE, outside", d.differ(1, 2, 2), NONE);
        lay(d, 1, head(2, 14, 14), without(0, 12, 12));
        due("the empty set", d.differ(1, 2, 1), 0);
        d.tell(0, 2, 2);
        due("the FACTS of the desk do not count", d.differ(1, 2, 1), 0);
        due("both in one", d.differ(2, 2, 1), 0);

        // h on side 1 alone, if all nine pairs of 0 to 2 are there.
        Derivationdesk e = desk(2, 1, 2, 1);
        lay(e, 3, head(1, 0, NONE), with(0, 0, 1));
        lay(e, 3, head(2, 10, 10), with(1, 0, NONE), with(1, 1, NONE), without(0, 0, 1));
        lay(e, 2, head(3, 10, NONE), with(1, 10, NONE), with(1, 11, NONE), with(1, 12, NONE), without(2, 10, 10));
        due("all nine rows", e.differ(0, 3, 3), 511);
        due("not of size 2", e.differ(0, 3, 2), NONE);

        promise(39, "Returns how many rows the ANSWER would have more then (below 0: less); 0, if it is (is not) told.");
        Derivationdesk f = desk(2, 2, 1);
        f.closure(1, 0);
        tellAll(f, 0, 1, 12);
        due("told, as it is", f.would(0, 0, 1, true), 0);
        due("taken back", f.would(0, 0, 1, false), -3);
        due("taken back, as it is not told", f.would(0, 4, 4, false), 0);
        due("told", f.would(0, 2, 0, true), 1 + 6);
        due("in the ANSWER, but not told: told", f.would(1, 0, 2, true), 0);
        due("in the ANSWER, but not told: taken back", f.would(1, 0, 2, false), 0);
        due("nothing is changed", f.count(1) + f.count(5), 2 + 3);
        Derivationdesk g = desk(2, 1, 1);
        lay(g, 1, head(1, 0, NONE), with(0, 0, 1), without(2, 1, NONE));
        tellAll(g, 0, 3, 13, 23);
        due("below 0, though it is told", g.would(2, 3, NONE, true), 1 - 3);
        g.tell(2, 3, NONE);
        due("more, though it is taken back", g.would(2, 3, NONE, false), 3 - 1);
    }

    // ---- what held when

    private static void times() {
        promise(40, "the ANSWER of that TIME is not kept");
        Derivationdesk d = desk(2, 2);
        due("TIME 0", d.held(0, 0, 0, 0), false);
        thrown(d, INDEX, "TIME 1 is to come", () -> d.held(1, 0, 0, 0));
        thrown(d, INDEX, "TIME -1 never was", () -> d.held(-1, 0, 0, 0));
        d.closure(1, 0);
        boolean[] was = new boolean[102];
        for (int n = 0; n < 100; n++) {
            int now = n + 2;
            boolean isTold = n / 25 % 2 == 0;
            if (isTold) d.tell(0, n % 25 / 5, n % 5);
            else d.untell(0, n % 25 / 5, n % 5);
            was[now] = d.holds(1, 0, 0);
            due("now", d.held(now, 0, n % 25 / 5, n % 5), isTold);
            due("before", d.held(now - 1, 0, n % 25 / 5, n % 5), !isTold);
            int oldest = Math.max(0, now - 29);
            due("the oldest one", d.held(oldest, 1, 0, 0), was[oldest]);
            if (now >= 30) thrown(d, INDEX, "the one before it", () -> d.held(oldest - 1, 1, 0, 0));
        }
        due("a RELATION made now", d.relation(1), 2);
        due("had no rows at each TIME", d.held(80, 2, 4, NONE), false);
        thrown(d, INDEX, "the least", () -> d.held(LEAST, 0, 0, 0));
        thrown(d, INDEX, "the greatest", () -> d.held(GREATEST, 0, 0, 0));

        promise(41, "Returns the earliest TIME that is kept from which on, at each one till now, it was in the ANSWER; NONE, if it is not now.");
        Derivationdesk e = desk(2, 2);
        due("not now", e.since(0, 0, 0), NONE);
        e.tell(0, 0, 0);
        due("from 1 on", e.since(0, 0, 0), 1);
        lay(e, 3, head(1, 0, 1), with(0, 0, 1));
        due("made from 2 on", e.since(1, 0, 0), 2);
        e.untell(0, 0, 0);
        due("not now, though it was", e.since(1, 0, 0), NONE);
        e.tell(1, 0, 0);
        due("again from 4 on", e.since(1, 0, 0), 4);
        e.tell(0, 0, 0);
        due("told or made is one", e.untell(1, 0, 0) + e.since(1, 0, 0), 4);
        while (e.count(5) < 33) e.sides(0, 3);
        due("4 is kept at TIME 33", e.since(1, 0, 0), 4);
        e.sides(0, 3);
        due("5 is the earliest at TIME 34", e.since(1, 0, 0), 5);
        while (e.count(5) < 400) e.sides(0, 3);
        due("371 is the earliest at TIME 400", e.since(1, 0, 0), 371);
    }

    // ---- all at once

    private static void sound() {
        promise(42, "Returns whether all of this is so");
        due("empty", new Derivationdesk().isSound(), true);
        due("one RELATION", desk(1).isSound(), true);
        due("full", full().isSound(), true);
        Derivationdesk d = desk(2, 2, 2, 1);
        lay(d, 1, head(1, 0, 1), with(0, 0, 1));
        lay(d, 1, head(1, 0, 1), with(0, 0, 1));
        lay(d, 1, head(1, 1, 0), with(1, 0, 1));
        d.group(2, 1, 2, 3);
        lay(d, 1, head(3, 0, NONE), with(2, 0, 1), without(1, 1, 0), compares(2, 0, 1));
        tellAll(d, 0, 1, 14, 40, 22);
        due("NEEDLESS rules, a GROUP, WITHOUT and rows that hold each other", d.isSound(), true);
        d.untell(0, 1, 4);
        due("then", d.isSound(), true);

        promise(43, "A number d starts with 6104; then d becomes d * 31 + v, which wraps around as a 64-bit integer, for each v in this order");
        due("empty: it does not wrap yet", new Derivationdesk().digest(), unwrapped(new Derivationdesk()).longValue());
        digestOf("NONE for the draft", desk(2, 1));
        digestOf("a full desk", full());
        digestOf("a GROUP, CLUNG and both SIDES", d);
        d.sides(0, 2);
        d.sides(1, 2);
        d.knock();
        d.draft(0, 0, 0);
        digestOf("RULES of SIDE 1", d);
        Derivationdesk e = desk(1, 2);
        tellSingle(e, 0, 0, 4);
        digestOf("5 * 4 + 0 of one PLACE", e);
    }

    private static void digestOf(String what, Derivationdesk d) {
        BigInteger whole = unwrapped(d);
        due(what + ": it wraps around", whole.bitLength() > 64, true);
        due(what, d.digest(), whole.longValue());
        due(what + ", again", d.digest(), whole.longValue());
    }

    private static BigInteger unwrapped(Derivationdesk d) {
        BigInteger[] number = {BigInteger.valueOf(6104)};
        for (int what = 0; what <= 9; what++) put(number, d.count(what));
        for (int r = 0; r < d.count(0); r++) {
            for (int what = 0; what <= 4; what++) put(number, d.ofRelation(r, what));
            boolean isSingle = d.ofRelation(r, 0) == 1;
            for (int cell = 0; cell < 25; cell += isSingle ? 5 : 1) {
                int second = isSingle ? NONE : cell % 5;
                if (d.holds(r, cell / 5, second)) {
                    put(number, cell);
                    put(number, d.height(r, cell / 5, second));
                    put(number, d.reasons(r, cell / 5, second));
                }
            }
        }
        for (int rule = 0; rule < d.count(3); rule++) {
            put(number, d.rule(rule).length());
            put(number, d.matches(rule));
        }
        for (int i = 0; i < 4; i++) put(number, d.work(i / 2, i % 2));
        put(number, d.isSound() ? 1 : 0);
        return number[0];
    }

    private static void put(BigInteger[] number, int v) {
        number[0] = number[0].multiply(BigInteger.valueOf(31)).add(BigInteger.valueOf(v));
    }

    public static void main(String[] args) throws IOException {
        open();
        empty();
        fullDesk();
        facts();
        drafts();
        laying();
        sidesAndScraps();
        looks();
        texts();
        demands();
        reasons();
        tallest();
        whyNots();
        joins();
        containing();
        wishes();
        differing();
        times();
        sound();
        end();
    }
}
