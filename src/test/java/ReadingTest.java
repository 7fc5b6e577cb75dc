import java.io.IOException;

/**
 * Sentences of the document in its order, those above all that many calls rest on, and those that no other test quotes.
 * The answers are found by hand.
 */
public final class ReadingTest extends Sentences {
    /** Rows of one relation: 0(0,1), 0(1,2), .. as a ring of so many constants. */
    private static void tellRing(Derivationdesk d, int relation, int many) {
        for (int a = 0; a < many; a++) d.tell(relation, a, (a + 1) % many);
    }

    private static int matchesOfSideZero(Derivationdesk d) {
        int all = 0;
        for (int rule = 0; rule < d.count(3); rule++) {
            String text = d.rule(rule);
            if (!text.endsWith("/2")) all += d.matches(rule);
        }
        return all;
    }

    private static String allRows(Derivationdesk d, int side) {
        StringBuilder s = new StringBuilder();
        for (int r = 0; r < d.count(0); r++) s.append(d.rows(r, side)).append('|');
        return s.toString();
    }

    // ---- what stands before the sections

    private static void rowsOfNumbers() {
        section(0, "Rows of numbers are by the first number that is unlike (\"by\" values: those of the variables, with smaller numbers"
            + " first).");
        Derivationdesk d = desk(2, 2, 1);
        tellAll(d, 0, 2, 1);
        tellAll(d, 1, 20, 13, 10);
        lay(d, 1, head(2, 0, NONE), with(0, 0, 1), with(1, 1, 2));
        lay(d, 1, head(2, 3, NONE), with(0, 3, 1), with(1, 1, 0));
        due("reasons", d.reasons(2, 0, NONE), 6);
        String[] due = {"r0 0 1 0", "r0 0 1 3", "r0 0 2 0", "r1 0 1 0", "r1 0 2 0", "r1 3 1 0"};
        for (int k = 0; k < due.length; k++) due("reason " + k, d.reason(2, 0, NONE, k), due[k]);
        due("why not: the first values by variable 0, then 1, then 2", d.whyNot(1, 4, NONE), "0 0 0 4");
        section(0, "Of several the smallest or first one, if nothing else is said.");
        due("the best of six as good ones", d.reason(2, 0, NONE, NONE), "r0 0 1 0");
        due("plan: one of as many rows", d.plan(0), "01");
        d.tell(2, 4, NONE);
        due("wish: 1(1,0) and 1(2,0) are there; of all that do as well the first by rows", d.wish(0, 2, 1, NONE), "0(1,1)");
        lay(d, 2, head(2, 0, NONE), with(0, 1, 0));
        due("differ: 0(0,0), 0(0,1) .. do as well", d.differ(0, 2, 3), 1);
    }

    // ---- 1. Relations, rows, rules

    private static void rowsAndHeads() {
        section(1, "A ROW of one has a CONSTANT in each PLACE");
        Derivationdesk d = desk(2, 1);
        for (int cell = 0; cell < 25; cell++) due("a row", d.tell(0, cell / 5, cell % 5), 1);
        for (int a = 0; a < 5; a++) due("a row of one place", d.tell(1, a, NONE), 1);
        due("rows", d.count(2), 30);

        section(1, "has a HEAD (a RELATION with TERMS)");
        Derivationdesk e = desk(2, 1);
        lay(e, 1, head(1, 14, NONE), with(0, 10, 0));
        lay(e, 1, head(0, 0, 0), with(0, 0, 1));
        due("a constant", e.rule(0), "1(4):-0(0,v0)/1");
        due("a variable twice", e.rule(1), "0(v0,v0):-0(v0,v1)/1");
        due("rows of both", e.tell(0, 0, 3), 3);
        due("rows", allRows(e, 0), "0(0,0) 0(0,3)|1(4)|");

        section(1, "A PART is WITH (a RELATION with TERMS), WITHOUT (the same)");
        Derivationdesk f = desk(2, 2, 1);
        tellAll(f, 0, 11, 22, 33, 23);
        tellAll(f, 1, 23, 33, 34);
        lay(f, 1, head(2, 0, NONE), with(0, 0, 0), without(1, 0, 13), without(1, 0, 0));
        due("2 has 1(2,3), 3 has 1(3,3)", f.rows(2, 0), "2(1)");
        lay(f, 1, head(2, 14, NONE), with(1, 13, 14), without(0, 10, 10));
        due("constants alone", f.rows(2, 0), "2(1) 2(4)");

        section(1, "It makes the row of the HEAD.");
        due("one match", f.matches(1), 1);
        lay(f, 1, head(2, 10, NONE), with(0, 0, 1), with(1, 1, 2));
        // 0(2,2) 1(2,3); 0(2,3) with 1(3,3), 1(3,4); 0(3,3) with 1(3,3), 1(3,4).
        due("five matches", f.matches(2), 5);
        due("make one row", f.question(2, 0, NONE), "2(0)");
        due("by as many reasons", f.reasons(2, 0, NONE), 5);
    }

    private static void sideOfTheAnswer() {
        section(1, "The ANSWER without another word is that of SIDE 0");
        Derivationdesk d = desk(2, 1);
        lay(d, 2, head(1, 0, NONE), with(0, 0, 1));
        due("what tell makes on side 1 is not told", d.tell(0, 2, 3), 1);
        due("rows of side 1", d.rows(1, 1), "1(2)");
        due("holds", d.holds(1, 2, NONE), false);
        due("question", d.question(1, NONE, NONE), "");
        due("height", d.height(1, 2, NONE), NONE);
        due("reasons", d.reasons(1, 2, NONE), 0);
        due("proof", d.proof(1, 2, NONE), 0);
        due("held", d.held(2, 1, 2, NONE), false);
        due("since", d.since(1, 2, NONE), NONE);
        due("would", d.would(0, 4, 4, true), 1);
        due("wish", d.wish(0, 1, 4, NONE), "none");
        due("untell", d.untell(0, 2, 3), 1);

        section(1, "RULES of SIDE 0 alone count for all that follows, where nothing else is said");
        Derivationdesk e = desk(1, 1, 1);
        lay(e, 2, head(1, 0, NONE), without(0, 0, NONE), with(2, 0, NONE));
        tellSingle(e, 2, 1);
        due("no rounds, but layer 1", e.work(0, 0) * 10 + e.ofRelation(1, 4), 1);
        due("demands", e.demands(1, NONE, NONE, 0), 1);
        lay(e, 1, head(1, 0, NONE), with(1, 0, NONE));
        due("one round of layer 1, in which nothing fires", e.work(0, 0) * 10 + e.work(0, 1), 10);
        due("its own demand is there", e.demands(1, NONE, NONE, 0), 1);
        e.sides(0, 1);
        due("then: 1(*), 2(*), 0(1)", e.demands(1, NONE, NONE, 0), 3);
        due("two rounds, 1 + 2 firings", e.work(0, 0) * 10 + e.work(0, 1), 23);
        e.sides(0, 2);
        due("rows of both sides", e.rows(1, 0) + "|" + e.rows(1, 1), "|1(1)");
        tellSingle(e, 1, 3);
        e.untell(1, 3, NONE);
        due("1(3) clings by rule 1", e.count(6), 1);
        e.sides(1, 2);
        tellSingle(e, 1, 3);
        e.untell(1, 3, NONE);
        due("but not by a rule of side 1", e.count(6), 0);

        section(1, "but RULES of any SIDES have numbers and are counted when it is asked how many RULES there are, and a call with the number"
            + " of one tells of that one, whatever its SIDES.");
        due("rules", e.count(3), 2);
        due("matches of rule 0", e.matches(0), 1);
        due("its text", e.rule(0), "1(v0):-2(v0),!0(v0)/2");
        due("why not", e.whyNot(0, 1, NONE), "so");
        due("why not", e.whyNot(0, 2, NONE), "0 2");
        due("visits", e.visits(0, false), 1);
        due("plan", e.plan(0), "0");
        due("rule 1 is contained in itself", e.contained(1, 1), true);
        due("and needless: its head is one of its facts", e.needless(1), true);
    }

    // ---- 2. Ways

    private static void rounds() {
        section(2, "LAYER by LAYER (of those with RULES of SIDE 0 for its RELATIONS, whether these have a MATCH or not) in ROUNDS");
        Derivationdesk d = desk(1, 1, 1, 1);
        lay(d, 1, head(1, 0, NONE), with(0, 0, NONE), without(3, 0, NONE));
        lay(d, 2, head(2, 0, NONE), with(0, 0, NONE), without(1, 0, NONE));
        due("layers 0, 1, 2", d.count(4), 3);
        due("layer 1 alone has a rule of side 0; none of its matches is there", d.work(0, 0), 1);
        lay(d, 3, head(2, 0, NONE), with(2, 0, NONE), without(1, 10, NONE));
        due("layer 2, too", d.work(0, 0), 2);
        tellSingle(d, 0, 0, 1);
        section(2, "The ROUND that brings no new row is the last one of the LAYER (it is counted).");
        due("two of layer 1, one of layer 2", d.work(0, 0), 3);
        due("2 + 2 firings over and over", d.work(0, 1), 4);
        tellSingle(d, 1, 0, 1);
        due("the rows of layer 1 are facts: its first round is its last one", d.work(0, 0), 2);
        due("2 firings", d.work(0, 1), 2);
        due("only what is new", d.work(1, 0) * 10 + d.work(1, 1), 22);
        Derivationdesk e = desk(2, 2);
        tellAll(e, 0, 1, 12, 23, 34);
        e.closure(1, 0);
        // Rows of path come in rounds of 4, 3, 2, 1 and 0.
        due("five rounds", e.work(0, 0), 5);
        due("rule 0 fires 5 * 4 times, rule 1 0, 3, 5, 6 and 6 times", e.work(0, 1), 20 + 20);
        due("each match once", e.work(1, 1), 4 + 6);
        due("as many rounds", e.work(1, 0), 5);
    }

    private static void demandsOfChains() {
        section(2, "so that for each DEMAND, and each RULE that makes its RELATION");
        Derivationdesk d = desk(2, 2, 2);
        lay(d, 1, head(1, 0, 1), with(0, 0, 1));
        lay(d, 1, head(2, 0, 1), with(1, 1, 0));
        lay(d, 1, head(2, 0, 1), with(0, 0, 1), with(0, 1, 0));
        tellAll(d, 0, 12, 21, 22);
        due("2(1,*); 1(*,1) of rule 1, 0(*,1) of rule 0; 0(1,*), 0(2,1) of rule 2", d.demands(2, 1, NONE, 0), 5);
        due("2(1,2), 1(2,1), 0(2,1), 0(1,2)", d.demands(2, 1, NONE, 1), 4);

        section(2, "then PART by PART");
        Derivationdesk e = desk(2, 2, 1);
        lay(e, 1, head(2, 2, NONE), without(1, 0, 1), compares(1, 0, 11), with(0, 0, 1), with(0, 1, 2));
        tellAll(e, 0, 1, 12, 23);
        due("2(*), 0(*,*), 0(1,*), 0(2,*), 0(3,*), 1(0,1), 1(1,2)", e.demands(2, NONE, NONE, 0), 7);
        due("2(2), and all of 0", e.demands(2, NONE, NONE, 1), 4);
        e.tell(1, 1, 2);
        due("then 1(1,2) is in the answer, but no part is looked for behind it", e.demands(2, NONE, NONE, 0), 7);

        section(2, "of WITH: the PATTERN with all that is known (NONE for a variable that is not) is a DEMAND; for each row of the ANSWER that"
            + " fits it (and has the same for the same variable) one goes on with its CONSTANTS known");
        Derivationdesk f = desk(2, 2, 1);
        lay(f, 1, head(2, 0, NONE), with(0, 1, 1), with(1, 1, 0));
        tellAll(f, 0, 1, 11, 33);
        due("2(4), 0(*,*), 1(1,4), 1(3,4); 0(0,1) fits, but has not the same twice", f.demands(2, 4, NONE, 0), 4);
        tellAll(f, 1, 14, 10);
        due("2(4), 0(0,1), 0(1,1), 0(3,3), 1(1,4) fit; 1(1,0) does not", f.demands(2, 4, NONE, 1), 5);
        due("2(*), 0(*,*), 1(1,*), 1(3,*)", f.demands(2, NONE, NONE, 0), 4);
    }

    // ---- 3. Reasons

    private static void whyNotOfAll() {
        section(3, "WHY NOT of a RULE and a row of its HEAD: of all values of its variables with which the HEAD is that row");
        Derivationdesk d = desk(2, 2, 1);
        lay(d, 1, head(2, 1, NONE), with(0, 0, 1), with(1, 1, 2), without(0, 2, 0));
        tellAll(d, 0, 1, 31, 20, 23);
        tellAll(d, 1, 12);
        due("part 2 is the greatest; 0 1 2 is before 3 1 2", d.whyNot(0, 1, NONE), "2 0 1 2");
        d.untell(0, 2, 3);
        due("with 3 1 2 all parts are so", d.whyNot(0, 1, NONE), "so");
        due("0(2,0) is there, but no 1(0,v2)", d.whyNot(0, 0, NONE), "1 2 0 0");
        due("no 0(v0,2)", d.whyNot(0, 2, NONE), "0 0 2 0");
        d.tell(1, 1, 4);
        due("row 2(1) is there", d.holds(2, 1, NONE), true);
        due("it has two matches with 3 1 and one with 0 1", d.reasons(2, 1, NONE), 3);
    }

    private static void clinging() {
        section(3, "those of them that are not in the ANSWER then are CLUNG: they stood on nothing but themselves.");
        Derivationdesk d = desk(2, 2);
        tellRing(d, 0, 4);
        d.closure(1, 0);
        due("all sixteen", d.ofRelation(1, 2), 16);
        due("0(3,0) and ten of 1", d.untell(0, 3, 0), 1 + 10);
        // 1(a,0) needs 0(3,0); 1(a,1) needs 1(a,0), if a is not 0; and so on: each one of the ten stands on 0(3,0).
        due("no ring of the rest holds them", d.count(6), 0);
        d.tell(0, 3, 1);
        due("1-2-3-1", d.ofRelation(1, 2), 12);
        due("0(0,1) and 1(0,1), 1(0,2), 1(0,3), which hold each other round the ring", d.untell(0, 0, 1), 4);
        due("they clung", d.count(6), 3);
        d.tell(0, 0, 2);
        d.tell(0, 0, 3);
        due("0(0,2) goes, but they stand by 0(0,3)", d.untell(0, 0, 2), 1);
        due("nothing clung", d.count(6), 0);
    }

    // ---- 4. Times, and what is refused

    private static void timesAndRefusals() {
        section(4, "TIME: 0 at first; each call that tells or takes back a FACT (that it changes), lays, changes or scraps RULES makes it"
            + " greater by 1 (one call by 1; sides() also if SIDES stay).");
        Derivationdesk d = desk(2, 2, 2);
        int time = 0;
        d.closure(1, 0);
        due("closure", d.count(5), ++time);
        d.generation(2, 0);
        due("generation", d.count(5), ++time);
        d.tell(0, 0, 1);
        due("tell", d.count(5), ++time);
        d.tell(1, 0, 1);
        due("tell of what is in the answer", d.count(5), ++time);
        due("the answer is the same at both times", d.since(1, 0, 1), 3);
        d.untell(1, 0, 1);
        due("untell of what stays in the answer", d.count(5), ++time);
        due("still", d.since(1, 0, 1), 3);
        d.sides(3, 3);
        due("sides as they were", d.count(5), ++time);
        draft(d, head(2, 0, 1), with(0, 0, 1), without(2, 1, 0));
        thrown(d, STATE, "a ring", () -> d.lay(3));
        thrown(d, STATE, "a ring", () -> d.group(0, 0, 0, 3));
        due("refused", d.count(5), time);
        due("the draft stands", d.count(7), 2);
        for (int rule = 3; rule >= 0; rule--) {
            due("scrap", d.scrap(rule), rule);
            due("scrap", d.count(5), ++time);
        }
        section(0, "A method that throws an exception changes nothing.");
        thrown(d, STATE, "a relation below itself, by a draft", () -> d.lay(1));
        due("the refused draft is as it was: a part more", d.with(0, 0, 0), 3);
        draft(d, head(2, 0, 1), with(0, 0, 1), without(1, 1, 0));
        due("a new draft is laid", d.lay(1), 0);
        due("its text", d.rule(0), "2(v0,v1):-0(v0,v1),!1(v1,v0)/1");
        thrown(d, STATE, "closure: its ring is found with its second rule, too", () -> d.closure(1, 2));
        due("no rule of it is left", d.count(3), 1);
        due("layers as before", d.ofRelation(2, 4), 1);
        section(0, "If several exceptions apply, the one that is named first is thrown.");
        draft(d, head(2, 0, 1), with(0, 0, 1), without(2, 1, 2));
        thrown(d, ARGUMENT, "not safe, and a ring", () -> d.lay(1));
        thrown(d, ARGUMENT, "sides, and no draft", () -> desk(2).lay(0));
        thrown(d, INDEX, "no such time, and no such constant", () -> d.held(99, 0, 9, 9));
        thrown(d, ARGUMENT, "a group of places, and of rings", () -> desk(1).group(0, 0, 0, 1));
    }

    // ---- promises

    private static void promisesOfFacts() {
        promise(2, "A new RELATION.");
        Derivationdesk d = new Derivationdesk();
        for (int i = 0; i < 8; i++) due("number", d.relation(1 + i % 2), i);
        due("relations", d.count(0), 8);
        for (int i = 0; i < 8; i++) due("places", d.ofRelation(i, 0), 1 + i % 2);
        promise(3, "Tells a FACT.");
        due("tell", d.tell(7, 4, 0), 1);
        due("facts", d.ofRelation(7, 1) * 10 + d.count(1), 11);
        promise(4, "Takes a FACT back.");
        due("untell", d.untell(7, 4, 0), 1);
        due("facts", d.ofRelation(7, 1) * 10 + d.count(1), 0);
        due("told anew", d.tell(7, 4, 0), 1);
        promise(16, "Returns whether it is in the ANSWER.");
        due("holds", d.holds(7, 4, 0), true);
        due("holds", d.holds(7, 0, 4), false);
        promise(40, "Returns whether it was in the ANSWER at that TIME.");
        for (int t = 0; t <= 3; t++) due("at " + t, d.held(t, 7, 4, 0), t % 2 == 1);
    }

    private static void promisesOfRules() {
        Derivationdesk d = desk(2, 2, 1);
        promise(6, "Adds a PART WITH to the draft.");
        d.draft(2, 0, NONE);
        due("with", d.with(0, 0, 1), 1);
        promise(7, "Adds a PART WITHOUT to the draft.");
        due("without", d.without(1, 1, 0), 2);
        promise(8, "Adds a PART that COMPARES to the draft.");
        due("compare", d.compare(2, 0, 1), 3);
        promise(9, "Returns its number.");
        due("lay", d.lay(1), 0);
        due("text", d.rule(0), "2(v0):-0(v0,v1),!1(v1,v0),v0<v1/1");
        promise(10, "Lays a GROUP.");
        due("its number", d.group(1, 0, 2, 3), 1);
        due("text", d.rule(1), "1:-g2 0/3");
        promise(10, "Returns its number.");
        due("another one", d.group(1, 0, 0, 2), 2);
        promise(11, "Returns the number of the first.");
        Derivationdesk e = desk(2, 2);
        due("closure", e.closure(1, 0), 0);
        due("closure", e.closure(0, 1), 2);
        due("the second one of it", e.rule(3), "0(v0,v2):-0(v0,v1),1(v1,v2)/3");
        promise(12, "Returns the number of the first.");
        due("generation", e.generation(1, 0), 4);
        due("the second one of it", e.rule(5), "1(v0,v1):-0(v2,v0),1(v2,v3),0(v3,v1)/3");
        promise(13, "Changes SIDES of a RULE.");
        d.tell(0, 0, 1);
        due("rows before", allRows(d, 0) + allRows(d, 1), "0(0,1)|1(0,1)|2(0)|0(0,1)|1(0,1)||");
        due("sides", d.sides(1, 2), 3);
        due("sides", d.sides(0, 3), 1);
        due("rows then", allRows(d, 0) + allRows(d, 1), "0(0,1)||2(0)|0(0,1)|1(0,1)|2(0)|");
        promise(14, "A RULE is scrapped.");
        due("scrap", d.scrap(0), 2);
        due("rows then", allRows(d, 0) + allRows(d, 1), "0(0,1)|||0(0,1)|1(0,1)||");
        due("those after it move up", d.rule(0), "1:-g2 0/2");
        due("a new one comes behind them", d.group(1, 0, 1, 1), 2);
        promise(15, "Knocks at the desk.");
        for (int i = 1; i <= 3; i++) due("knock", d.knock(), i);
        promise(19, "Returns TEXT of its HEAD, with \"v\" and its number for a variable, \":-\", its PARTS in order, with \",\" between:");
        lay(d, 3, head(0, 13, 2), compares(3, 2, 14), without(2, 2, NONE), with(0, 2, 10), with(2, 3, NONE));
        due("all kinds of parts", d.rule(3), "0(3,v2):-0(v2,0),2(v3),v2+4,!2(v2)/3");
    }

    private static void kinds() {
        promise(8, "`kind`: 0 to 3");
        Derivationdesk d = desk(2, 2);
        tellAll(d, 0, 11, 12, 13, 21);
        String[] due = {"1(1,1)", "1(1,2) 1(1,3) 1(2,1)", "1(1,2) 1(1,3)", "1(1,2)"};
        for (int kind = 0; kind <= 3; kind++) {
            lay(d, 1, head(1, 0, 1), with(0, 0, 1), compares(kind, 0, 1));
            due("kind " + kind, d.rows(1, 0), due[kind]);
            d.scrap(0);
        }
        promise(10, "`kind`: 0 to 2");
        String[] grouped = {"1(1,3) 1(2,1)", "1(1,1) 1(2,1)", "1(1,4) 1(2,1)"};
        for (int kind = 0; kind <= 2; kind++) {
            d.group(1, 0, kind, 1);
            due("kind " + kind, d.rows(1, 0), grouped[kind]);
            d.scrap(0);
        }
    }

    private static void promisesOfLooks() {
        Derivationdesk d = desk(2, 1, 2);
        lay(d, 1, head(1, 0, NONE), with(0, 0, 1));
        lay(d, 2, head(1, 1, NONE), with(0, 0, 1));
        d.group(2, 0, 0, 2);
        tellAll(d, 0, 1, 2, 12);
        promise(17, "side`: 0 or 1");
        due("side 0", d.rows(1, 0), "1(0) 1(1)");
        due("side 1", d.rows(1, 1), "1(1) 1(2)");
        promise(18, "Returns that.");
        int[] due = {2, 0, 0, 2, 1};
        for (int what = 0; what <= 4; what++) due("of 2: " + what, d.ofRelation(2, what), due[what]);
        promise(20, "`what`: 0 how many RELATIONS, 1 FACTS,");
        promise(20, "3 RULES,");
        promise(20, "5 TIME,");
        promise(20, "9 how many were REFUSED");
        promise(20, "Returns that.");
        d.knock();
        d.draft(0, 0, 0);
        int[] all = {3, 3, 5, 3, 2, 6, 0, 0, 7, 1};
        for (int what = 0; what <= 9; what++) due("count " + what, d.count(what), all[what]);
        promise(21, "`what`: 0 how many ROUNDS, 1 FIRINGS");
        promise(21, "Returns that.");
        due("over and over: two rounds of rule 0, 3 firings each", d.work(0, 0) * 10 + d.work(0, 1), 26);
        due("only what is new", d.work(1, 0) * 10 + d.work(1, 1), 23);
        promise(23, "Returns that.");
        due("1(0), 0(0,*)", d.demands(1, 0, NONE, 0), 2);
        due("1(0), 0(0,1), 0(0,2)", d.demands(1, 0, NONE, 1), 3);
        promise(26, "Returns its TEXT.");
        due("told", d.reason(0, 0, 1, 0), "told");
        due("the first of two", d.reason(1, 0, NONE, 0), "r0 0 1");
        due("the other one", d.reason(1, 0, NONE, 1), "r0 0 2");
        promise(29, "Returns of the RULE and the row of its HEAD:");
        due("a rule of side 1", d.whyNot(1, 2, NONE), "so");
        due("no 0(v0,4)", d.whyNot(1, 4, NONE), "0 0 4");
        promise(30, "Returns VISITS.");
        due("three rows", d.visits(1, false), 3);
        promise(39, "`isTold`: whether it were told (otherwise taken back)");
        due("told: 0(3,0) and 1(3)", d.would(0, 3, 0, true), 2);
        due("taken back: it is not told", d.would(0, 3, 0, false), 0);
        due("taken back: 0(1,2) and 1(1)", d.would(0, 1, 2, false), -2);
    }

    private static void promiseOfDifferences() {
        promise(38, "`size`: 1 to 3");
        promise(38, "Returns of all sets of rows of the given RELATION with CONSTANTS 0 to size - 1, as the only FACTS of all, one on which the"
            + " rows of the other RELATION are not the same in the ANSWERS of both SIDES:");
        Derivationdesk d = desk(2, 2);
        d.closure(1, 0);
        lay(d, 2, head(1, 0, 3), with(0, 0, 1), with(0, 1, 2), with(1, 2, 3), compares(1, 0, 3));
        due("a way of the closure already", d.differ(0, 1, 3), NONE);
        d.sides(1, 1);
        due("side 1 has no ways of two rows then: 0(0,1), 0(1,0) make 1(0,0)", d.differ(0, 1, 2), 2 + 4);
        due("one constant has one row alone", d.differ(0, 1, 1), NONE);
        due("0(0,1) is 2, 0(1,0) is 8 with three constants", d.differ(0, 1, 3), 2 + 8);
        tellAll(d, 0, 1, 10);
        due("what is told does not matter", d.differ(0, 1, 2), 6);
        due("of 1 as given: the rows of 0 are none on both sides", d.differ(1, 0, 3), NONE);
    }

    private static void promiseOfSoundness() {
        Derivationdesk d = desk(2, 2, 2, 1);
        tellRing(d, 0, 4);
        d.closure(1, 0);
        lay(d, 3, head(1, 0, 3), with(1, 0, 1), with(0, 1, 2), with(0, 2, 3));
        d.group(2, 1, 1, 1);
        lay(d, 1, head(3, 0, NONE), with(2, 0, 1), without(2, 1, 0), compares(1, 0, 1));
        lay(d, 2, head(3, 0, NONE), with(2, 0, 1));
        promise(42, "over and over, and by only what is new, the ANSWER is made that is kept;");
        due("rows", d.count(2), 4 + 16 + 4 + 3);
        due("isSound", d.isSound(), true);
        promise(42, "FIRINGS by only what is new are as many as all MATCHES of RULES of SIDE 0;");
        due("firings", d.work(1, 1), matchesOfSideZero(d));
        promise(42, "asked back from QUESTIONS without CONSTANTS all rows of each RELATION are found;");
        for (int r = 0; r < 4; r++) {
            due("all rows of " + r + " fit, and more", d.demands(r, NONE, NONE, 1) >= d.ofRelation(r, 2), true);
        }
        promise(42, "each row of the ANSWER is a FACT or made by a MATCH, and each row that is made by one is in the ANSWER;");
        int reasons = 0;
        for (int r = 0; r < 4; r++) {
            for (int cell = 0; cell < 25; cell += r == 3 ? 5 : 1) {
                int second = r == 3 ? NONE : cell % 5;
                int many = d.reasons(r, cell / 5, second);
                reasons += many;
                due("a reason", many > 0, d.holds(r, cell / 5, second));
                checkProof(d, r, cell / 5, second);
            }
        }
        due("no match makes another row", reasons, d.count(1) + matchesOfSideZero(d));
        promise(42, "without a NEEDLESS RULE (each by itself) the ANSWER is the same.");
        String rows = allRows(d, 0);
        for (int rule = d.count(3) - 1; rule >= 0; rule--) {
            if (d.needless(rule)) {
                due("the rule", d.rule(rule), "1(v0,v3):-1(v0,v1),0(v1,v2),0(v2,v3)/3");
                d.scrap(rule);
                due("rows without it", allRows(d, 0), rows);
            }
        }
        due("one was", d.count(3), 5);
    }

    private static void checkProof(Derivationdesk d, int relation, int first, int second) {
        promise(42, "each row of the PROOF of each one has HEIGHT of 0, or greater than those that its BEST REASON uses;");
        int lines = d.proof(relation, first, second);
        int least = 0;
        for (int k = 0; k < lines; k++) {
            String line = d.line(relation, first, second, k);
            int place = line.indexOf('(');
            int b = line.charAt(place + 2) == ',' ? line.charAt(place + 3) - '0' : NONE;
            int height = d.height(line.charAt(0) - '0', line.charAt(place + 1) - '0', b);
            due("only rows of height 0 are told", line.endsWith(" told"), height == 0);
            due("lower ones first", height >= least, true);
            least = height;
        }
        if (lines > 0) due("the last one is the row itself", least, d.height(relation, first, second));
    }

    private static void promiseOfDigest() {
        promise(43, "Computes a checksum.");
        promise(43, "count() of 0 to 9; RELATION by RELATION ofRelation() of 0 to 4 and then, row by row of this RELATION in the ANSWER, 5 * its"
            + " first CONSTANT + its second one (0, if NONE), its HEIGHT and how many REASONS it has; RULE by RULE (of any SIDES) the length of"
            + " rule(), and matches(); work() of 0 and 0, 0 and 1, 1 and 0, 1 and 1; 1 if isSound(), otherwise 0.");
        promise(43, "Returns d.");
        Derivationdesk d = desk(2, 2, 1);
        tellAll(d, 0, 1, 12);
        tellSingle(d, 2, 4);
        d.closure(1, 0);
        lay(d, 2, head(2, 0, NONE), with(1, 0, 1));
        // Behind count(9) stand 3 * 5 numbers of relations, 6 rows of three, 3 rules of two, and five more.
        int behind = 3 * 5 + 6 * 3 + 3 * 2 + 5;
        long before = d.digest();
        d.knock();
        due("a knock more", d.digest() - before, power(behind));
        before = d.digest();
        d.draft(1, 0, 1);
        due("0 parts of a draft for NONE", d.digest() - before, power(behind + 2));
        before = d.digest();
        d.with(0, 0, 1);
        due("a part more", d.digest() - before, power(behind + 2));
        before = d.digest();
        d.sides(0, 3);
        due("a time more", d.digest() - before, power(behind + 4));
        before = d.digest();
        d.relation(1);
        due("a relation more has its five numbers", before == d.digest(), false);
        behind += 5;
        before = d.digest();
        d.knock();
        due("a knock more", d.digest() - before, power(behind));
    }

    private static long power(int times) {
        long p = 1;
        for (int i = 0; i < times; i++) p *= 31;
        return p;
    }

    public static void main(String[] args) throws IOException {
        open();
        rowsOfNumbers();
        rowsAndHeads();
        sideOfTheAnswer();
        rounds();
        demandsOfChains();
        whyNotOfAll();
        clinging();
        timesAndRefusals();
        promisesOfFacts();
        promisesOfRules();
        kinds();
        promisesOfLooks();
        promiseOfDifferences();
        promiseOfSoundness();
        promiseOfDigest();
        end();
    }
}
