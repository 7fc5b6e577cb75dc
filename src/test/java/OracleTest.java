import java.lang.reflect.InvocationTargetException;
import java.lang.reflect.Method;
import java.util.ArrayList;
import java.util.List;
import java.util.TreeMap;

/** Long runs of made-up calls on a desk and on the model of the document beside it: all answers must be the same. */
public final class OracleTest {
    private static final int CALLS = 400;
    private static int wrong = 0;
    private static final TreeMap<String, int[]> SEEN = new TreeMap<>();

    /** Numbers that are always the same for the same start. */
    private static final class Dice {
        long state;
        Dice(long start) { state = start * 0x9E3779B97F4A7C15L + 12345; }
        int below(int n) {
            if (n < 1) return 0;
            state = state * 6364136223846793005L + 1442695040888963407L;
            return (int) ((state >>> 33) % n);
        }
        boolean oneOf(int n) { return below(n) == 0; }
    }

    private static final TreeMap<String, Method> DESK = new TreeMap<>();
    private static final TreeMap<String, Method> MODEL = new TreeMap<>();

    private static void find() throws Exception {
        for (Method m : Derivationdesk.class.getDeclaredMethods()) {
            if (java.lang.reflect.Modifier.isPublic(m.getModifiers())) {
                DESK.put(m.getName(), m);
                Method twin = Model.class.getDeclaredMethod(m.getName(), m.getParameterTypes());
                twin.setAccessible(true);
                MODEL.put(m.getName(), twin);
            }
        }
    }

    private static Object ask(TreeMap<String, Method> face, Object it, String name, Object... arguments) {
        try {
            return face.get(name).invoke(it, arguments);
        } catch (InvocationTargetException e) {
            return "throws " + e.getCause().getClass().getSimpleName();
        } catch (IllegalAccessException e) {
            return "no access";
        }
    }

    private static Object both(Derivationdesk desk, Model model, List<String> told, String name, Object... arguments) {
        Object due = ask(MODEL, model, name, arguments);
        Object got = ask(DESK, desk, name, arguments);
        told.add(name + java.util.Arrays.toString(arguments) + " -> " + got);
        int[] seen = SEEN.computeIfAbsent(name + (String.valueOf(due).startsWith("throws") ? " " + due : ""), k -> new int[1]);
        seen[0]++;
        if (!due.equals(got)) {
            wrong++;
            if (wrong < 6) {
                System.out.println("after " + (told.size() - 1) + " calls: " + told.get(told.size() - 1) + ", due is " + due);
                for (String line : told) if (wrong == 1) System.out.println("    " + line);
            }
        }
        return due;
    }

    private static int term(Dice dice, int variables) {
        return dice.oneOf(30) ? dice.below(20) - 3 : dice.oneOf(5) ? 10 + dice.below(5) : dice.below(variables);
    }

    private static int relation(Dice dice, Model model) {
        return dice.oneOf(60) ? dice.below(11) - 1 : dice.below(Math.max(1, model.places.size()));
    }

    private static int places(Model model, int relation) {
        return relation >= 0 && relation < model.places.size() ? model.places.get(relation) : 2;
    }

    private static int constant(Dice dice, int domain) {
        return dice.oneOf(60) ? dice.below(9) - 2 : dice.below(domain);
    }

    private static int second(Dice dice, Model model, int relation, int domain) {
        boolean isOdd = dice.oneOf(60);
        return (places(model, relation) == 2) != isOdd ? constant(dice, domain) : -1;
    }

    private static int open(Dice dice, int constant) {
        return dice.oneOf(2) ? -1 : constant;
    }

    private static void build(Derivationdesk desk, Model model, Dice dice, List<String> told, int domain) {
        int of = relation(dice, model);
        int variables = 2 + dice.below(3);
        int head = Math.min(of + dice.below(3), model.places.size());
        both(desk, model, told, "draft", head, term(dice, variables),
            places(model, head) == 2 ? term(dice, variables) : -1);
        int parts = 1 + dice.below(4) + (dice.oneOf(15) ? 1 : 0);
        for (int i = 0; i < parts; i++) {
            int kind = dice.below(10);
            int r = dice.oneOf(2) ? of : dice.below(head + 1 + (dice.oneOf(6) ? 2 : 0));
            int y = places(model, r) == 2 != dice.oneOf(40) ? term(dice, variables) : -1;
            if (kind < 7) {
                both(desk, model, told, "with", r, term(dice, variables), y);
            } else if (kind < 9) {
                int not = Math.max(0, head - 1 - dice.below(2));
                both(desk, model, told, "without", not, term(dice, variables),
                    places(model, not) == 2 ? term(dice, variables) : -1);
            } else {
                both(desk, model, told, "compare", dice.oneOf(40) ? 5 : dice.below(4), term(dice, variables), term(dice, variables));
            }
        }
        both(desk, model, told, "lay", sides(dice));
    }

    private static int sides(Dice dice) {
        return dice.oneOf(40) ? dice.below(6) - 1 : dice.oneOf(2) ? 3 : dice.oneOf(2) ? 1 : 2;
    }

    private static void change(Derivationdesk desk, Model model, Dice dice, List<String> told, int domain) {
        int r = relation(dice, model);
        switch (dice.below(16)) {
            case 0:
                both(desk, model, told, "relation", dice.oneOf(20) ? 3 : dice.oneOf(3) ? 1 : 2);
                break;
            case 1: case 2: case 3: case 4: case 5: case 6:
                both(desk, model, told, "tell", r, constant(dice, domain), second(dice, model, r, domain));
                break;
            case 7: case 8:
                if (model.facts.size > 0 && !dice.oneOf(10)) {
                    Model.Row row = model.facts.all().get(dice.below(model.facts.size));
                    both(desk, model, told, "untell", row.relation(), row.first(), row.second());
                } else {
                    both(desk, model, told, "untell", r, constant(dice, domain), second(dice, model, r, domain));
                }
                break;
            case 9: case 10: case 11:
                build(desk, model, dice, told, domain);
                break;
            case 12:
                both(desk, model, told, "group", Math.min(r + dice.below(3), 8), r, dice.oneOf(20) ? 3 : dice.below(3), sides(dice));
                break;
            case 13:
                both(desk, model, told, dice.oneOf(2) ? "closure" : "generation", Math.min(r + dice.below(3), 8), r);
                break;
            case 14:
                both(desk, model, told, "sides", rule(dice, model), sides(dice));
                break;
            default:
                if (dice.oneOf(3)) both(desk, model, told, "scrap", rule(dice, model));
                else both(desk, model, told, "knock");
                break;
        }
    }

    private static int rule(Dice dice, Model model) {
        return dice.oneOf(40) ? dice.below(15) - 1 : dice.below(Math.max(1, model.rules.size()));
    }

    private static void look(Derivationdesk desk, Model model, Dice dice, List<String> told, int domain) {
        int r = relation(dice, model);
        int a = constant(dice, domain);
        int b = second(dice, model, r, domain);
        if (model.answer.size > 0 && dice.oneOf(2)) {
            Model.Row row = model.answer.all().get(dice.below(model.answer.size));
            r = row.relation();
            a = row.first();
            b = row.second();
        }
        int rule = rule(dice, model);
        int other = rule(dice, model);
        switch (dice.below(27)) {
            case 0: both(desk, model, told, "holds", r, a, b); break;
            case 1: both(desk, model, told, "rows", r, dice.oneOf(20) ? 2 : dice.below(2)); break;
            case 2: both(desk, model, told, "ofRelation", r, dice.below(6) - (dice.oneOf(10) ? 1 : 0)); break;
            case 3: both(desk, model, told, "rule", rule); break;
            case 4: both(desk, model, told, "count", dice.below(12) - 1); break;
            case 5: both(desk, model, told, "work", dice.below(dice.oneOf(20) ? 3 : 2), dice.below(dice.oneOf(20) ? 3 : 2)); break;
            case 6: both(desk, model, told, "question", r, open(dice, a), open(dice, b)); break;
            case 7: case 8: both(desk, model, told, "demands", r, open(dice, a), open(dice, b), dice.below(dice.oneOf(20) ? 3 : 2)); break;
            case 9: both(desk, model, told, "height", r, a, b); break;
            case 10: both(desk, model, told, "reasons", r, a, b); break;
            case 11: case 12: both(desk, model, told, "reason", r, a, b, dice.below(4) - (dice.oneOf(8) ? 2 : 1)); break;
            case 13: both(desk, model, told, "proof", r, a, b); break;
            case 14: case 15: both(desk, model, told, "line", r, a, b, dice.below(6) - (dice.oneOf(8) ? 1 : 0)); break;
            case 16: {
                int head = rule >= 0 && rule < model.rules.size() ? model.rules.get(rule).head : r;
                both(desk, model, told, "whyNot", rule, constant(dice, domain), second(dice, model, head, domain));
                break;
            }
            case 17: both(desk, model, told, "visits", rule, dice.oneOf(2)); break;
            case 18: both(desk, model, told, "plan", rule); break;
            case 19: both(desk, model, told, "matches", rule); break;
            case 20: both(desk, model, told, "nearest", r, constant(dice, domain), constant(dice, domain)); break;
            case 21: both(desk, model, told, dice.oneOf(2) ? "contained" : "witness", rule, other); break;
            case 22: both(desk, model, told, "needless", rule); break;
            case 23: both(desk, model, told, "would", r, a, b, dice.oneOf(2)); break;
            case 24: both(desk, model, told, "held", model.time - dice.below(33) + 1, r, a, b); break;
            case 25: both(desk, model, told, "since", r, a, b); break;
            default:
                if (dice.oneOf(4)) both(desk, model, told, "wish", relation(dice, model), r, constant(dice, domain), second(dice, model, r, domain));
                else if (dice.oneOf(3)) both(desk, model, told, "differ", relation(dice, model), r, dice.oneOf(10) ? dice.below(6) - 1 : dice.oneOf(8) ? 3 : 1 + dice.below(2));
                else both(desk, model, told, "isSound");
                break;
        }
    }

    /** Any call with any arguments. */
    private static void wild(Derivationdesk desk, Model model, Dice dice, List<String> told) {
        List<String> names = new ArrayList<>(DESK.keySet());
        String name = names.get(dice.below(names.size()));
        Class<?>[] types = DESK.get(name).getParameterTypes();
        Object[] arguments = new Object[types.length];
        int[] odd = {Integer.MIN_VALUE, Integer.MIN_VALUE + 1, -3, -2, 15, 30, 64, Integer.MAX_VALUE - 1, Integer.MAX_VALUE};
        for (int i = 0; i < types.length; i++) {
            if (types[i] == boolean.class) arguments[i] = dice.oneOf(2);
            else arguments[i] = dice.oneOf(4) ? odd[dice.below(odd.length)] : dice.below(7) - 1;
        }
        if (name.equals("relation") && model.places.size() > 5 || name.equals("wish") && !dice.oneOf(6)) return;
        if (name.equals("differ") && (int) arguments[2] == 3 && !dice.oneOf(6)) return;
        both(desk, model, told, name, arguments);
    }

    private static void run(long start) {
        Dice dice = new Dice(start);
        Derivationdesk desk = new Derivationdesk();
        Model model = new Model();
        List<String> told = new ArrayList<>();
        int domain = 2 + dice.below(4);
        int relations = 2 + dice.below(5);
        for (int i = 0; i < relations; i++) both(desk, model, told, "relation", dice.oneOf(4) ? 1 : 2);
        while (told.size() < CALLS && wrong == 0) {
            if (dice.oneOf(8)) wild(desk, model, dice, told);
            else if (dice.oneOf(3)) change(desk, model, dice, told, domain);
            else look(desk, model, dice, told, domain);
            if (dice.oneOf(12)) both(desk, model, told, "digest");
        }
        both(desk, model, told, "digest");
    }

    public static void main(String[] args) throws Exception {
        find();
        int from = args.length > 0 ? Integer.parseInt(args[0]) : 0;
        int runs = args.length > 1 ? Integer.parseInt(args[1]) : 60;
        for (int i = from; i < from + runs && wrong == 0; i++) {
            run(i);
        }
        if (args.length > 1) SEEN.forEach((k, v) -> System.out.println(k + " " + v[0]));
        System.out.println(wrong == 0 ? "all answers are as due" : wrong + " answers are wrong");
        System.exit(wrong == 0 ? 0 : 1);
    }
}
