import java.util.ArrayList;
import java.util.List;
import java.util.Random;

/** All promises together: random runs of calls, each answer compared with the model's. */
public final class ModelTest {
    private final Kit kit = new Kit("ModelTest");
    private final Random random;
    private final Model model = new Model();
    private final Model probe = new Model();
    private final ClauseKernel kernel = new ClauseKernel();
    private final int[] seen;
    private boolean failed;

    private ModelTest(long seed, int[] seen) {
        random = new Random(seed);
        this.seen = seen;
    }

    public static void main(String[] args) {
        int rounds = args.length > 0 ? Integer.parseInt(args[0]) : 400;
        long first = args.length > 1 ? Long.parseLong(args[1]) : 1;
        int[] seen = new int[20];
        for (int k = 0; k < rounds; k++) {
            new ModelTest(first + k, seen).round();
        }
        StringBuilder all = new StringBuilder("ModelTest: answers");
        for (int k = 0; k < 9; k++) {
            all.append(' ').append(k).append(": ").append(seen[k]);
        }
        System.out.println(all.append(", faults of work 1: ").append(seen[11])
                .append(" 4: ").append(seen[14]).append(", done with induct: ").append(seen[9]));
    }

    private void round() {
        for (int k = 0; k < 60; k++) {
            String text = text();
            if (text.length() > 3000) {
                continue;
            }
            int fuel = random.nextInt(8) == 0 ? 1 + random.nextInt(12) : 1000;
            same("fuel", kernel.fuel(fuel), model.fuel);
            model.fuel = fuel;
            compare(text);
        }
        if (failed) {
            kit.end();
        }
    }

    private void same(String what, Object got, Object want) {
        failed |= !got.equals(want);
        kit.due(what, got, want);
    }

    private void compare(String text) {
        int want = model.run(text);
        same(text, Kit.say(kernel, text), want);
        same("OUT of " + text, Kit.out(kernel), model.out);
        same("fault(0) of " + text, kernel.fault(0), model.fault);
        same("fault(1) of " + text, kernel.fault(1), model.place);
        same("fault(2) of " + text, kernel.fault(2), model.work);
        same("steps() of " + text, kernel.steps(), model.steps);
        same("count(0) of " + text, kernel.count(0), model.functions());
        same("count(1) of " + text, kernel.count(1), model.theorems());
        same("count(2) of " + text, kernel.count(2), model.literals);
        seen[want]++;
        seen[9] += want == 0 && text.contains("(induct") ? 1 : 0;
        seen[10 + model.work]++;
        if (random.nextInt(4) == 0) {
            int k = random.nextInt(model.things.size() + 1);
            boolean there = k < model.things.size();
            String due = there ? model.tell(k) : model.out;
            same("tell(" + k + ")", kernel.tell(k), there ? due.length() : -1);
            same("OUT of tell(" + k + ")", Kit.out(kernel), due);
        }
    }

    // The texts

    private String one(String... of) {
        return of[random.nextInt(of.length)];
    }

    private String text() {
        String text = command();
        switch (random.nextInt(12)) {
            case 0:
                return mutated(text, "()'. ;\nabx01_#~\u0000\u00ff");
            case 1:
                return mutated(mutated(text, "()'. "), "xyz 1");
            case 2:
                return blanked(text);
            default:
                return text;
        }
    }

    private String mutated(String text, String letters) {
        StringBuilder all = new StringBuilder(text);
        int k = random.nextInt(all.length() + 1);
        char c = letters.charAt(random.nextInt(letters.length()));
        switch (random.nextInt(3)) {
            case 0:
                all.insert(k, c);
                break;
            case 1:
                all.setLength(k);
                break;
            default:
                if (k < all.length()) {
                    all.setCharAt(k, c);
                }
        }
        return all.toString();
    }

    private String blanked(String text) {
        StringBuilder all = new StringBuilder();
        for (char c : text.toCharArray()) {
            boolean split = c == ' ' || c == '(' || c == ')';
            all.append(split && random.nextInt(4) == 0 ? one("\n", " ; (x\n", " ", "\n\n") : "").append(c);
        }
        return all.append(one("", "\n", ";", " ; )")).toString();
    }

    private String command() {
        switch (random.nextInt(9)) {
            case 0:
                return random.nextInt(3) == 0 ? "(undo)" : define();
            case 1:
            case 2:
                return define();
            case 3:
            case 4:
            case 5:
                return check();
            default:
                return "(clause " + proof(4) + ")";
        }
    }

    private String define() {
        String name = one("f", "g", "h", "f" + random.nextInt(60), "x", "car", "taut", "app");
        int takes = random.nextInt(4);
        List<String> parameters = new ArrayList<>(List.of("x", "y", "z", "quote", "if"))
                .subList(0, random.nextInt(9) == 0 ? 5 : takes);
        String variables = String.join(" ", parameters);
        if (parameters.isEmpty() && random.nextInt(2) == 0) {
            return "(defun " + name + " () " + one("5", "(" + name + ")", "nil", "(if t 1 (" + name + "))") + ")";
        }
        if (parameters.isEmpty()) {
            return "(defun " + name + " (x) (if (consp x) (" + name + " (cdr x)) " + one("x", "y", "'x") + "))";
        }
        return "(defun " + name + " (" + variables + ") " + body(name, parameters, 3) + ")";
    }

    private String body(String name, List<String> parameters, int depth) {
        String variable = parameters.get(random.nextInt(parameters.size()));
        if (depth > 0 && random.nextInt(3) > 0) {
            return "(if " + one("(consp " + variable + ")", "(not (natp " + variable + "))", variable, "'k", "nil",
                    "(not 5)") + " " + body(name, parameters, depth - 1) + " "
                    + body(name, parameters, depth - 1) + ")";
        }
        StringBuilder call = new StringBuilder("(" + name);
        for (String parameter : parameters) {
            call.append(' ').append(one("(cdr " + parameter + ")", parameter, "(car " + variable + ")"));
        }
        call.append(')');
        switch (random.nextInt(12)) {
            case 0:
                return "(+ 1 " + call + ")";
            case 1:
                return "(cons " + call + " " + call + ")";
            case 2:
            case 3:
                return call.toString();
            case 4:
                return "(if (natp " + call + ") 1 2)";
            case 5:
                return "(" + name + " " + call + ")";
            case 6:
                return Kit.wide(100 + random.nextInt(25), variable);
            default:
                return one(variable, "nil", "'(a . b)", "(cons 1 " + variable + ")");
        }
    }

    private String check() {
        String proof = proof(3);
        List<Object> clause = clauseOf(proof);
        String goal = clause == null || clause.isEmpty() || random.nextInt(10) == 0
                ? term(2) : Model.told(clause.get(0));
        return "(check " + one("a", "b", "c", "m" + random.nextInt(80), "f", "x", "t") + " " + goal + " " + proof + ")";
    }

    private List<Object> clauseOf(String proof) {
        probe.things.clear();
        probe.things.addAll(model.things);
        return probe.clauseAlone(proof);
    }

    private String constant() {
        return one("nil", "t", "0", "1", "7", "'5", "'nil", "'a", "'quote", "'(a b)", "'(1 . 2)", "''x", "'(quote)",
                "'(a quote b)", "'(quote . b)", "4611686018427387903", "4611686018427387902", "007", "'((a) (b . c))");
    }

    private String variable() {
        return one("x", "y", "z", "x", "y", "quote", "if");
    }

    private String term(int depth) {
        int kind = random.nextInt(depth > 0 ? 10 : 4);
        if (kind < 2) {
            return variable();
        }
        if (kind < 4) {
            return constant();
        }
        if (kind == 4 && random.nextInt(3) == 0) {
            return Kit.wide(random.nextInt(4) == 0 ? 110 + random.nextInt(14) : 1 + random.nextInt(60), variable());
        }
        if (kind == 5 && random.nextInt(8) == 0) {
            return one("(car x y)", "(quote x y)", "(nope x)", "(car . x)", "((car x))", "(5 x)", "(cons x)", "(f x)");
        }
        if (kind == 6 && !model.things.isEmpty()
                && model.things.get(random.nextInt(model.things.size())) instanceof Model.Function function) {
            StringBuilder call = new StringBuilder("(" + function.name());
            for (int k = 0; k < function.parameters().size(); k++) {
                call.append(' ').append(term(depth - 1));
            }
            return call.append(')').toString();
        }
        return baseCall(() -> term(depth - 1));
    }

    private String baseCall(java.util.function.Supplier<String> inner) {
        switch (random.nextInt(6)) {
            case 0:
                return "(if " + inner.get() + " " + inner.get() + " " + inner.get() + ")";
            case 1:
            case 2:
            case 3:
                return "(" + one("equal", "cons", "implies", "+", "-", "<", "equal") + " " + inner.get() + " "
                        + inner.get() + ")";
            default:
                return "(" + one("consp", "car", "cdr", "natp", "symbolp", "height", "not", "not") + " "
                        + inner.get() + ")";
        }
    }

    private String name(boolean function) {
        List<String> names = new ArrayList<>();
        for (Object thing : model.things) {
            if (thing instanceof Model.Function f && function) {
                names.add(f.name());
            }
            if (thing instanceof Model.Theorem theorem && !function) {
                names.add(theorem.name());
            }
        }
        return names.isEmpty() || random.nextInt(12) == 0 ? one("f", "a", "car", "5") : one(names.toArray(new String[0]));
    }

    private String axiom() {
        switch (random.nextInt(12)) {
            case 0:
                return "(taut " + term(2) + ")";
            case 1:
                return "(same " + term(2) + ")";
            case 2:
                return "(value " + baseCall(this::constant) + ")";
            case 3:
                return "(value " + term(2) + ")";
            case 4:
                return "(" + one("first", "second", "pair") + " " + term(2) + " " + term(2) + ")";
            case 5:
            case 6:
                return "(" + one("yes", "no") + " " + term(1) + " " + term(1) + " " + term(1) + ")";
            case 7:
            case 8:
                return "(def " + name(true) + ")";
            case 9:
                return random.nextInt(6) == 0
                        ? one("x", "5", "()", "(taut)", "(same x y)", "(nope x)", "'x", "(taut . x)", "((taut x))")
                        : "(taut " + term(1) + ")";
            default:
                return "(thm " + name(false) + ")";
        }
    }

    private String proof(int depth) {
        if (depth == 0 || random.nextInt(5) == 0) {
            return axiom();
        }
        switch (random.nextInt(13)) {
            case 0:
            case 1:
                return weak(depth);
            case 2:
            case 3:
                return cut(depth);
            case 4:
            case 5:
                return inst(depth);
            case 6:
                return "(swap " + proof(depth - 1) + ")";
            case 7:
            case 8:
                return "(put " + one("(swap ", "(inst ", "(inst ") + equation() + ") " + proof(depth - 1) + ")";
            case 9:
                return "(put " + proof(depth - 1) + " " + proof(depth - 1) + ")";
            case 10:
                return big(depth);
            default:
                return induct(depth);
        }
    }

    private String equation() {
        return one("(same " + term(1) + ")", "(value " + baseCall(this::constant) + ")", "(def " + name(true) + ")",
                "(first " + variable() + " " + term(1) + ")", "(swap (weak (" + variable() + ") (first x y)))",
                "(weak (x y) (inst (swap (first x y)) (x " + term(2) + ")))", "(thm " + name(false) + ")");
    }

    private String weak(int depth) {
        StringBuilder all = new StringBuilder("(weak (");
        int length = random.nextInt(6) == 0 ? 25 + random.nextInt(10) : random.nextInt(4);
        for (int k = 0; k < length; k++) {
            all.append(length > 4 ? "v" + random.nextInt(60) : term(2)).append(' ');
        }
        return all.append(random.nextInt(20) == 0 ? ". x) " : ") ").append(proof(depth - 1)).append(")").toString();
    }

    private String cut(int depth) {
        String p = proof(depth - 1);
        List<Object> clause = clauseOf(p);
        if (clause == null || clause.isEmpty() || random.nextInt(8) == 0) {
            return "(cut " + term(1) + " " + p + " " + proof(depth - 1) + ")";
        }
        String literal = Model.told(clause.get(random.nextInt(clause.size())));
        String q = random.nextInt(2) == 0 ? "(taut " + literal + ")"
                : "(weak ((not " + literal + ")) " + proof(depth - 1) + ")";
        return "(cut " + literal + " " + p + " " + q + ")";
    }

    private String inst(int depth) {
        StringBuilder all = new StringBuilder("(inst " + proof(depth - 1));
        int length = random.nextInt(3);
        for (int k = 0; k < length; k++) {
            all.append(" (").append(one("x", "y", "z", variable())).append(' ').append(term(2)).append(')');
        }
        return all.append(random.nextInt(12) == 0 ? one(" 'x)", " (x))", " (nil x))", " x)", " (x x x))") : ")").toString();
    }

    /** Proofs that bring terms and clauses near to what is TOO BIG. */
    private String big(int depth) {
        int size = 20 + random.nextInt(30);
        String wide = Kit.wide(size, one("x", "y"));
        String more = Kit.wide(1 + random.nextInt(8), one("x", "y", "(cons x y)"));
        String many = "(weak (" + Kit.wide(random.nextInt(100) + 20, "x") + " " + Kit.wide(random.nextInt(100) + 1, "y")
                + " " + Kit.wide(random.nextInt(60) + 60, "z") + ") " + axiom() + ")";
        return one("(inst (taut " + wide + ") (x " + more + "))", "(put (swap (first x y)) (taut " + wide + "))",
                many, "(cut " + wide + " (taut " + wide + ") (weak (" + more + ") (taut " + wide + ")))",
                "(inst " + many + " (x " + more + ") (y x))", "(cut x (weak (x) " + many + ") (weak ((not x)) "
                + proof(depth - 1) + "))", "(put (weak (y) (inst (swap (first x y)) (x z))) " + many + ")");
    }

    private String induct(int depth) {
        String side = term(1);
        String goal = random.nextInt(3) == 0 ? term(2) : "(equal " + side + " " + side + ")";
        String name = name(true);
        StringBuilder all = new StringBuilder("(induct " + goal + " (" + name);
        int parts = 1 + random.nextInt(3);
        for (Object thing : model.things) {
            if (thing instanceof Model.Function function && function.name().equals(name)) {
                List<String> of = new ArrayList<>(List.of("x", "y", "z", "u", "quote", "w"));
                java.util.Collections.shuffle(of, random);
                for (int k = 0; k < function.parameters().size(); k++) {
                    all.append(' ').append(random.nextInt(20) == 0 ? "x" : of.get(k));
                }
                parts = random.nextInt(20) == 0 ? 2 : Model.pathsOf(function);
            }
        }
        all.append(')');
        for (int k = 0; k < parts; k++) {
            all.append(' ').append(one("(same " + side + ")", "(same " + side + ")", "(same " + side + ")",
                    "(weak ((not (consp x))) (same " + side + "))", "(weak (" + goal + ") (same " + side + "))",
                    random.nextInt(6) == 0 ? proof(depth - 1) : "(same " + side + ")"));
        }
        return all.append(')').toString();
    }
}
