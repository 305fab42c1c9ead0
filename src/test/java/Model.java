import java.math.BigInteger;
import java.util.ArrayList;
import java.util.LinkedHashMap;
import java.util.LinkedHashSet;
import java.util.List;
import java.util.Map;

/**
 * The document a second time, told with the Java library and plain recursion over trees, so that random
 * texts can be compared. It shares no code and no way of keeping things with the kernel.
 */
final class Model {
    record Pair(Object first, Object second) { }

    record Function(String name, List<String> parameters, Object body) { }

    record Theorem(String name, Object goal) { }

    static final class ReadingFault extends RuntimeException {
        final int number;
        final int place;

        ReadingFault(int number, int place) {
            this.number = number;
            this.place = place;
        }
    }

    static final class WorkFault extends RuntimeException {
        final int number;

        WorkFault(int number) {
            this.number = number;
        }
    }

    static final class WrongProof extends RuntimeException {
        final Object proof;

        WrongProof(Object proof) {
            this.proof = proof;
        }
    }

    static final class Refused extends RuntimeException {
        final int answer;

        Refused(int answer) {
            this.answer = answer;
        }
    }

    private static final String NIL = "nil";
    private static final BigInteger MOST = BigInteger.TWO.pow(62).subtract(BigInteger.ONE);
    private static final Map<String, Integer> BASE = new LinkedHashMap<>();

    static {
        BASE.put("if", 3);
        for (String name : "equal cons implies + - <".split(" ")) {
            BASE.put(name, 2);
        }
        for (String name : "consp car cdr natp symbolp height not".split(" ")) {
            BASE.put(name, 1);
        }
    }

    final List<Object> things = new ArrayList<>();
    String out = "";
    int fault;
    int place = -1;
    int work;
    int steps;
    int literals;
    int fuel = 1000;

    int functions() {
        return (int) things.stream().filter(x -> x instanceof Function).count();
    }

    int theorems() {
        return things.size() - functions();
    }

    // READING

    private String text;
    private int at;
    private int words;

    private record Word(String text, int place) { }

    private Word next() {
        while (at < text.length()) {
            char c = text.charAt(at);
            if (c == ';') {
                while (at < text.length() && text.charAt(at) != '\n') {
                    at++;
                }
            } else if (c == ' ' || c == '\n') {
                at++;
            } else {
                break;
            }
        }
        int start = at;
        if (at == text.length()) {
            return new Word("", start);
        }
        char c = text.charAt(at);
        if ("().'".indexOf(c) >= 0) {
            at++;
            return new Word("" + c, start);
        }
        while (at < text.length() && isLetter(text.charAt(at))) {
            at++;
        }
        if (at == start) {
            throw new ReadingFault(1, start);
        }
        String atom = text.substring(start, at);
        boolean natural = atom.matches("[0-9]+");
        if (natural ? new BigInteger(atom).compareTo(MOST) > 0 : atom.length() > 11) {
            throw new ReadingFault(2, start);
        }
        return new Word(atom, start);
    }

    private static boolean isLetter(char c) {
        return c >= 'a' && c <= 'z' || c >= '0' && c <= '9' || "+-*/<>=?!_".indexOf(c) >= 0;
    }

    private void count(Word word) {
        words++;
        if (words > 1000) {
            throw new ReadingFault(5, word.place);
        }
    }

    private Object object(Word word, int open) {
        if (word.text.isEmpty() || word.text.equals(")") || word.text.equals(".")) {
            throw new ReadingFault(3, word.place);
        }
        boolean opens = word.text.equals("(") || word.text.equals("'");
        if (opens && open == 40) {
            throw new ReadingFault(4, word.place);
        }
        count(word);
        if (word.text.equals("'")) {
            return list("quote", object(next(), open + 1));
        }
        if (word.text.equals("(")) {
            return rest(open + 1);
        }
        return word.text.matches("[0-9]+") ? new BigInteger(word.text) : word.text;
    }

    private Object rest(int open) {
        List<Object> all = new ArrayList<>();
        Object last = NIL;
        Word word = next();
        while (!word.text.equals(")")) {
            if (word.text.equals(".") && !all.isEmpty()) {
                count(word);
                last = object(next(), open);
                word = next();
                if (!word.text.equals(")")) {
                    throw new ReadingFault(3, word.place);
                }
                break;
            }
            all.add(object(word, open));
            word = next();
        }
        count(word);
        for (int k = all.size() - 1; k >= 0; k--) {
            last = new Pair(all.get(k), last);
        }
        return last;
    }

    private Object read(String what) {
        text = what;
        at = 0;
        words = 0;
        Object object = object(next(), 0);
        Word word = next();
        if (!word.text.isEmpty()) {
            throw new ReadingFault(3, word.place);
        }
        return object;
    }

    private static Object list(Object... objects) {
        Object list = NIL;
        for (int k = objects.length - 1; k >= 0; k--) {
            list = new Pair(objects[k], list);
        }
        return list;
    }

    /** The objects of a list, null when it is none. */
    private static List<Object> parts(Object object) {
        List<Object> all = new ArrayList<>();
        Object rest = object;
        while (rest instanceof Pair pair) {
            all.add(pair.first);
            rest = pair.second;
        }
        return rest.equals(NIL) ? all : null;
    }

    // TELLING

    static String told(Object object) {
        StringBuilder all = new StringBuilder();
        tell(object, all);
        return all.length() > 2000 ? all.substring(0, 2000) : all.toString();
    }

    private static void tell(Object object, StringBuilder all) {
        if (!(object instanceof Pair)) {
            all.append(object);
            return;
        }
        List<Object> parts = parts(object);
        if (parts != null && parts.size() == 2 && parts.get(0).equals("quote")) {
            all.append('\'');
            tell(parts.get(1), all);
            return;
        }
        char before = '(';
        Object rest = object;
        while (rest instanceof Pair pair) {
            all.append(before);
            tell(pair.first, all);
            before = ' ';
            rest = pair.second;
        }
        if (!rest.equals(NIL)) {
            all.append(" . ").append(rest);
        }
        all.append(')');
    }

    // TERMS: objects in which naturals, nil and t are without quote

    private String own;
    private int ownTakes;

    private int takes(Object name) {
        if (name.equals(own)) {
            return ownTakes;
        }
        if (BASE.containsKey(name)) {
            return BASE.get(name);
        }
        Function function = function(name);
        return function == null ? -1 : function.parameters.size();
    }

    private Function function(Object name) {
        for (Object thing : things) {
            if (thing instanceof Function function && function.name.equals(name)) {
                return function;
            }
        }
        return null;
    }

    private Theorem theorem(Object name) {
        for (Object thing : things) {
            if (thing instanceof Theorem theorem && theorem.name.equals(name)) {
                return theorem;
            }
        }
        return null;
    }

    private static boolean isVariable(Object object) {
        return object instanceof String && !object.equals(NIL) && !object.equals("t");
    }

    private static boolean isQuoted(Object object) {
        List<Object> parts = parts(object);
        return parts != null && parts.size() == 2 && parts.get(0).equals("quote");
    }

    private static boolean isConstant(Object term) {
        return !isVariable(term) && (!(term instanceof Pair) || isQuoted(term));
    }

    private static Object constant(Object object) {
        return isVariable(object) || object instanceof Pair ? list("quote", object) : object;
    }

    private static Object objectOf(Object constant) {
        return constant instanceof Pair ? parts(constant).get(1) : constant;
    }

    private Object term(Object object) {
        Object term = anyTerm(object);
        return term == null || sizeOf(term) > 120 ? null : term;
    }

    private Object anyTerm(Object object) {
        if (!(object instanceof Pair)) {
            return object;
        }
        List<Object> parts = parts(object);
        if (parts == null) {
            return null;
        }
        if (isQuoted(object)) {
            return constant(parts.get(1));
        }
        if (parts.get(0).equals("quote") || takes(parts.get(0)) != parts.size() - 1) {
            return null;
        }
        Object[] made = new Object[parts.size()];
        made[0] = parts.get(0);
        for (int k = 1; k < made.length; k++) {
            made[k] = anyTerm(parts.get(k));
            if (made[k] == null) {
                return null;
            }
        }
        return list(made);
    }

    private static List<Object> termsOf(Object call) {
        return parts(call).subList(1, parts(call).size());
    }

    private static boolean isCall(Object term) {
        return term instanceof Pair && !isQuoted(term);
    }

    private static boolean isCallOf(String name, Object term) {
        return isCall(term) && ((Pair) term).first.equals(name);
    }

    private static int sizeOf(Object term) {
        int size = 1;
        if (isCall(term)) {
            for (Object part : termsOf(term)) {
                size += sizeOf(part);
            }
        }
        return size;
    }

    private static Object made(Object term) {
        if (sizeOf(term) > 120) {
            throw new WorkFault(4);
        }
        return term;
    }

    private static Object call(Object... parts) {
        return made(list(parts));
    }

    private static Object not(Object term) {
        if (isCallOf("not", term)) {
            return termsOf(term).get(0);
        }
        if (isConstant(term)) {
            return term.equals(NIL) ? "t" : NIL;
        }
        return call("not", term);
    }

    private static Object replaced(Object term, Map<Object, Object> by) {
        if (by.containsKey(term)) {
            return by.get(term);
        }
        if (!isCall(term)) {
            return term;
        }
        List<Object> all = new ArrayList<>();
        all.add(((Pair) term).first);
        for (Object part : termsOf(term)) {
            all.add(replaced(part, by));
        }
        return list(all.toArray());
    }

    private static List<Object> calls(String name, Object term) {
        List<Object> all = new ArrayList<>();
        if (isCall(term)) {
            if (isCallOf(name, term)) {
                all.add(term);
            }
            for (Object part : termsOf(term)) {
                all.addAll(calls(name, part));
            }
        }
        return all;
    }

    private static LinkedHashSet<Object> variablesOf(Object term) {
        LinkedHashSet<Object> all = new LinkedHashSet<>();
        if (isVariable(term)) {
            all.add(term);
        }
        if (isCall(term)) {
            for (Object part : termsOf(term)) {
                all.addAll(variablesOf(part));
            }
        }
        return all;
    }

    // COMMANDS

    int run(String what) {
        out = "";
        fault = 0;
        place = -1;
        work = 0;
        steps = 0;
        try {
            done(parts(read(what)));
            return 0;
        } catch (ReadingFault e) {
            fault = e.number;
            place = e.place;
            return 1;
        } catch (Refused e) {
            return e.answer;
        } catch (WorkFault e) {
            work = e.number;
            return 4;
        } catch (WrongProof e) {
            out = told(e.proof);
            return 7;
        }
    }

    private void done(List<Object> parts) {
        if (parts == null || parts.isEmpty()) {
            throw new Refused(2);
        }
        if (parts.get(0).equals("defun") && parts.size() == 4) {
            define(parts.get(1), parts.get(2), parts.get(3));
        } else if (parts.get(0).equals("check") && parts.size() == 4) {
            check(parts.get(1), parts.get(2), parts.get(3));
        } else if (parts.get(0).equals("clause") && parts.size() == 2) {
            List<Object> clause = clause(parts.get(1), 0);
            literals = clause.size();
            out = told(list(clause.toArray()));
        } else if (parts.get(0).equals("undo") && parts.size() == 1) {
            if (things.isEmpty()) {
                throw new Refused(3);
            }
            things.remove(things.size() - 1);
        } else {
            throw new Refused(2);
        }
    }

    private static boolean mayName(Object name) {
        return isVariable(name) && !name.equals("quote") && !BASE.containsKey(name);
    }

    private static List<String> variables(Object object) {
        List<Object> parts = parts(object);
        if (parts == null || parts.size() > 6) {
            return null;
        }
        LinkedHashSet<String> all = new LinkedHashSet<>();
        for (Object part : parts) {
            if (!isVariable(part) || !all.add((String) part)) {
                return null;
            }
        }
        return new ArrayList<>(all);
    }

    private void define(Object name, Object list, Object object) {
        List<String> parameters = variables(list);
        if (!mayName(name) || parameters == null) {
            throw new Refused(2);
        }
        own = (String) name;
        ownTakes = parameters.size();
        Object body = term(object);
        own = null;
        if (body == null || !parameters.containsAll(variablesOf(body))) {
            throw new Refused(2);
        }
        for (Path path : paths(body)) {
            for (Object ruler : path.rulers) {
                if (!calls((String) name, ruler).isEmpty()) {
                    throw new Refused(2);
                }
            }
        }
        for (Object call : calls((String) name, body)) {
            if (calls((String) name, call).size() > 1) {
                throw new Refused(2);
            }
        }
        if (function(name) != null) {
            throw new Refused(3);
        }
        if (functions() >= 40) {
            throw new Refused(8);
        }
        things.add(new Function((String) name, parameters, body));
    }

    private void check(Object name, Object object, Object proof) {
        Object goal = term(object);
        if (!mayName(name) || goal == null) {
            throw new Refused(2);
        }
        if (theorem(name) != null) {
            throw new Refused(3);
        }
        if (theorems() >= 60) {
            throw new Refused(8);
        }
        List<Object> clause = clause(proof, 0);
        for (Object literal : clause) {
            if (!literal.equals(goal)) {
                throw new WrongProof(list(clause.toArray()));
            }
        }
        things.add(new Theorem((String) name, goal));
    }

    /** The clause of a proof alone; null when it has none. */
    List<Object> clauseAlone(String proof) {
        steps = 0;
        try {
            return clause(read(proof), 0);
        } catch (ReadingFault | WorkFault | WrongProof e) {
            return null;
        }
    }

    static int pathsOf(Function function) {
        return paths(function.body).size();
    }

    String tell(int k) {
        if (things.get(k) instanceof Function function) {
            return told(list("defun", function.name, list(function.parameters.toArray()), function.body));
        }
        Theorem theorem = (Theorem) things.get(k);
        return told(list("theorem", theorem.name, theorem.goal));
    }

    record Path(List<Object> rulers, Object end) { }

    private static List<Path> paths(Object term) {
        List<Path> all = new ArrayList<>();
        if (!isCallOf("if", term)) {
            all.add(new Path(List.of(), term));
            return all;
        }
        List<Object> parts = termsOf(term);
        for (int k = 1; k < 3; k++) {
            for (Path path : paths(parts.get(k))) {
                List<Object> rulers = new ArrayList<>();
                rulers.add(k == 1 ? parts.get(0) : not(parts.get(0)));
                rulers.addAll(path.rulers);
                all.add(new Path(rulers, path.end));
            }
        }
        return all;
    }

    // PROOFS

    private static final Map<String, String> FORMS = new LinkedHashMap<>();

    static {
        for (String form : ("taut:L same:L value:L first:LL second:LL pair:LL yes:LLL no:LLL def:N thm:N "
                + "weak:CP cut:LPP inst:PB swap:P put:PP induct:LSR").split(" ")) {
            FORMS.put(form.substring(0, form.indexOf(':')), form.substring(form.indexOf(':') + 1));
        }
    }

    private static List<Object> clauseOf(List<Object> literals) {
        List<Object> clause = new ArrayList<>(new LinkedHashSet<>(literals));
        int sizes = 0;
        for (Object literal : clause) {
            sizes += sizeOf(literal);
        }
        if (clause.size() > 30 || sizes > 400) {
            throw new WorkFault(4);
        }
        return clause;
    }

    private List<Object> clause(Object proof, int within) {
        if (within >= 40) {
            throw new WorkFault(2);
        }
        if (steps == fuel) {
            throw new WorkFault(1);
        }
        steps++;
        List<Object> parts = parts(proof);
        if (parts == null || parts.isEmpty() || !FORMS.containsKey(parts.get(0))) {
            throw new WrongProof(proof);
        }
        String form = FORMS.get(parts.get(0));
        boolean open = form.endsWith("B") || form.endsWith("R");
        int fixed = open ? form.length() - 1 : form.length();
        if (open ? parts.size() - 1 < fixed : parts.size() - 1 != fixed) {
            throw new WrongProof(proof);
        }
        List<Object> terms = new ArrayList<>();
        List<Object> more = new ArrayList<>();
        for (int k = 0; k < fixed; k++) {
            Object part = parts.get(k + 1);
            if (form.charAt(k) == 'L') {
                terms.add(asked(term(part), proof));
            }
            if (form.charAt(k) == 'C') {
                for (Object object : asked(parts(part), proof)) {
                    more.add(asked(term(object), proof));
                }
            }
        }
        Map<Object, Object> by = new LinkedHashMap<>();
        if (form.equals("PB")) {
            for (Object two : parts.subList(2, parts.size())) {
                List<Object> both = asked(parts(two), proof);
                if (both.size() != 2 || !isVariable(both.get(0)) || by.containsKey(both.get(0))) {
                    throw new WrongProof(proof);
                }
                by.put(both.get(0), asked(term(both.get(1)), proof));
            }
        }
        if (form.equals("LSR")) {
            return induct(proof, terms.get(0), parts, within);
        }
        List<List<Object>> clauses = new ArrayList<>();
        for (int k = 0; k < fixed; k++) {
            if (form.charAt(k) == 'P') {
                clauses.add(clause(parts.get(k + 1), within + 1));
            }
        }
        if (clauses.isEmpty()) {
            return clauseOf(axiom(proof, parts, terms));
        }
        return clauseOf(joined(proof, (String) parts.get(0), terms, more, by, clauses));
    }

    private static <X> X asked(X x, Object proof) {
        if (x == null) {
            throw new WrongProof(proof);
        }
        return x;
    }

    private List<Object> axiom(Object proof, List<Object> parts, List<Object> terms) {
        Object l = terms.isEmpty() ? null : terms.get(0);
        Object m = terms.size() < 2 ? null : terms.get(1);
        Object n = terms.size() < 3 ? null : terms.get(2);
        switch ((String) parts.get(0)) {
            case "taut":
                return List.of(l, not(l));
            case "same":
                return List.of(call("equal", l, l));
            case "value":
                return List.of(call("equal", l, constant(value(proof, l))));
            case "first":
                return List.of(call("equal", call("car", call("cons", l, m)), l));
            case "second":
                return List.of(call("equal", call("cdr", call("cons", l, m)), m));
            case "pair":
                return List.of(call("consp", call("cons", l, m)));
            case "yes":
                return List.of(not(l), call("equal", call("if", l, m, n), m));
            case "no":
                return List.of(l, call("equal", call("if", l, m, n), n));
            case "def":
                Function function = asked(function(parts.get(1)), proof);
                Object head = new Pair(function.name, list(function.parameters.toArray()));
                return List.of(call("equal", head, function.body));
            default:
                return List.of(asked(theorem(parts.get(1)), proof).goal);
        }
    }

    private static List<Object> without(List<Object> clause, Object literal, Object proof) {
        if (!clause.contains(literal)) {
            throw new WrongProof(proof);
        }
        List<Object> all = new ArrayList<>(clause);
        all.remove(literal);
        return all;
    }

    private List<Object> joined(Object proof, String rule, List<Object> terms, List<Object> more,
            Map<Object, Object> by, List<List<Object>> clauses) {
        List<Object> p = clauses.get(0);
        List<Object> all = new ArrayList<>();
        switch (rule) {
            case "weak":
                all.addAll(p);
                all.addAll(more);
                return all;
            case "cut":
                all.addAll(without(p, terms.get(0), proof));
                all.addAll(without(clauses.get(1), not(terms.get(0)), proof));
                return all;
            case "inst":
                for (Object literal : p) {
                    all.add(made(replaced(literal, by)));
                }
                return all;
            default:
        }
        if (p.isEmpty() || !isCallOf("equal", p.get(0))) {
            throw new WrongProof(proof);
        }
        Object a = termsOf(p.get(0)).get(0);
        Object b = termsOf(p.get(0)).get(1);
        if (rule.equals("swap")) {
            all.add(call("equal", b, a));
        } else {
            for (Object literal : clauses.get(1)) {
                all.add(made(replaced(literal, Map.of(a, b))));
            }
        }
        all.addAll(p.subList(1, p.size()));
        return all;
    }

    private List<Object> induct(Object proof, Object goal, List<Object> parts, int within) {
        List<Object> scheme = asked(parts(parts.get(2)), proof);
        if (scheme.isEmpty()) {
            throw new WrongProof(proof);
        }
        Function function = asked(function(scheme.get(0)), proof);
        List<String> v = asked(variables(((Pair) parts.get(2)).second), proof);
        List<Path> paths = paths(function.body);
        if (calls(function.name, function.body).isEmpty() || v.size() != function.parameters.size()
                || parts.size() - 3 != paths.size()) {
            throw new WrongProof(proof);
        }
        List<List<Object>> clauses = new ArrayList<>();
        for (Object part : parts.subList(3, parts.size())) {
            clauses.add(clause(part, within + 1));
        }
        for (int k = 0; k < paths.size(); k++) {
            List<Object> due = induction(goal, function, v, paths.get(k));
            if (!due.containsAll(clauses.get(k))) {
                throw new WrongProof(proof);
            }
        }
        return clauseOf(List.of(goal));
    }

    private static List<Object> induction(Object goal, Function function, List<String> v, Path path) {
        Map<Object, Object> named = new LinkedHashMap<>();
        for (int k = 0; k < v.size(); k++) {
            named.put(function.parameters.get(k), v.get(k));
        }
        List<Object> all = new ArrayList<>();
        for (Object ruler : path.rulers) {
            all.add(not(replaced(ruler, named)));
        }
        for (Object call : calls(function.name, path.end)) {
            Map<Object, Object> by = new LinkedHashMap<>();
            for (int k = 0; k < v.size(); k++) {
                by.put(v.get(k), replaced(termsOf(call).get(k), named));
            }
            all.add(not(made(replaced(goal, by))));
        }
        all.add(goal);
        return clauseOf(all);
    }

    private Object value(Object proof, Object call) {
        if (!isCall(call) || !BASE.containsKey(((Pair) call).first)) {
            throw new WrongProof(proof);
        }
        List<Object> of = new ArrayList<>();
        for (Object term : termsOf(call)) {
            if (!isConstant(term)) {
                throw new WrongProof(proof);
            }
            of.add(objectOf(term));
        }
        Object a = of.get(0);
        Object b = of.size() < 2 ? NIL : of.get(1);
        switch ((String) ((Pair) call).first) {
            case "if":
                return !a.equals(NIL) ? b : of.get(2);
            case "equal":
                return truth(a.equals(b));
            case "cons":
                return new Pair(a, b);
            case "implies":
                return truth(!(!a.equals(NIL) && b.equals(NIL)));
            case "+":
                BigInteger sum = number(a).add(number(b));
                return sum.compareTo(MOST) > 0 ? asked(null, proof) : sum;
            case "-":
                return number(a).subtract(number(b)).max(BigInteger.ZERO);
            case "<":
                return truth(number(a).compareTo(number(b)) < 0);
            case "consp":
                return truth(a instanceof Pair);
            case "car":
                return a instanceof Pair pair ? pair.first : NIL;
            case "cdr":
                return a instanceof Pair pair ? pair.second : NIL;
            case "natp":
                return truth(a instanceof BigInteger);
            case "symbolp":
                return truth(a instanceof String);
            case "height":
                return BigInteger.valueOf(height(a));
            default:
                return truth(a.equals(NIL));
        }
    }

    private static Object truth(boolean so) {
        return so ? "t" : NIL;
    }

    private static BigInteger number(Object object) {
        return object instanceof BigInteger n ? n : BigInteger.ZERO;
    }

    private static int height(Object object) {
        return object instanceof Pair pair ? 1 + Math.max(height(pair.first), height(pair.second)) : 0;
    }
}
