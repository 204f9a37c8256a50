import java.util.ArrayList;
import java.util.HashMap;
import java.util.HashSet;
import java.util.LinkedHashMap;
import java.util.List;
import java.util.Map;
import java.util.NoSuchElementException;
import java.util.Set;
import java.util.TreeMap;
import java.util.regex.Matcher;
import java.util.regex.Pattern;

/**
 * The document written a second time, in other ways than the program: the
 * grammar as a table whose stacks are all followed at once, the roles of tokens
 * told by their neighbours, and facts as texts.
 */
final class Oracle {
    private static final Set<String> WORDS =
        Set.of("class", "field", "def", "new", "null", "if", "else", "while", "return", "this");
    private static final Map<String, String[]> GRAMMAR = new HashMap<>();

    static {
        rule("PROGRAM", "CLASS CLASSES");
        rule("CLASSES", "", "CLASS CLASSES");
        rule("CLASS", "class NAME ABOVE { MEMBERS }");
        rule("ABOVE", "", ": NAME");
        rule("MEMBERS", "", "MEMBER MEMBERS");
        rule("MEMBER", "field NAME ;", "def NAME ( PARAMETERS ) BODY");
        rule("PARAMETERS", "", "NAME", "NAME , NAME");
        rule("BODY", "{ STATEMENTS }");
        rule("STATEMENTS", "", "STATEMENT STATEMENTS");
        rule("STATEMENT", "if VAR BODY ELSE", "while VAR BODY", "return VAR ;", "VAR . NAME = VAR ;", "CALL ;",
            "NAME = RIGHT ;");
        rule("ELSE", "", "else BODY");
        rule("RIGHT", "new NAME", "null", "( NAME ) VAR", "VAR", "VAR . NAME", "CALL");
        rule("CALL", "VAR . NAME ( ARGUMENTS )");
        rule("ARGUMENTS", "", "VAR", "VAR , VAR");
        rule("VAR", "NAME", "this");
    }

    private static void rule(String head, String... ways) {
        GRAMMAR.put(head, ways);
    }

    private record Token(String text, int place) {
        boolean isName() {
            return text.matches("[a-z]{1,6}") && !WORDS.contains(text);
        }

        boolean isVar() {
            return isName() || text.equals("this");
        }
    }

    private record Stack(String top, Stack rest) {
    }

    record Method(String name, int owner, int result, List<String> parameters, List<Node> body) {
        int self() {
            return result + 1;
        }

        int parameter(int number) {
            return number < parameters.size() ? result + 2 + number : -1;
        }
    }

    /** A statement: its kind, the variables and names in it, its number, its bodies. */
    static final class Node {
        String kind;
        int method;
        int left = -1;
        int right = -1;
        String name = "";
        int number = -1;
        final List<Integer> arguments = new ArrayList<>();
        List<Node> first = List.of();
        List<Node> second = List.of();
    }

    private static final class Thing {
        final int site;
        final Map<String, Thing> fields = new HashMap<>();

        Thing(int site) {
            this.site = site;
        }
    }

    private final List<Token> tokens = new ArrayList<>();
    private int end;
    final int fault;
    final List<String> classes = new ArrayList<>();
    final List<Integer> above = new ArrayList<>();
    final List<Set<String>> ownFields = new ArrayList<>();
    final List<String> fields = new ArrayList<>();
    final List<Method> methods = new ArrayList<>();
    final List<Node> all = new ArrayList<>();
    final List<Node> calls = new ArrayList<>();
    final List<Node> casts = new ArrayList<>();
    final List<String> sites = new ArrayList<>();
    final List<String> variables = new ArrayList<>();
    final Map<String, Integer> facts = new LinkedHashMap<>();
    int lastRound;
    final Set<String> seen = new HashSet<>();
    int made;
    int begun;
    private int at;

    Oracle(String text) {
        Matcher m = Pattern.compile("[a-z]+|[^ a-z]").matcher(text);
        while (m.find()) {
            tokens.add(new Token(m.group(), m.start()));
            end = m.end();
        }
        fault = findFault();
        if (fault < 0) {
            build();
            analyse();
        }
    }

    // ---- the fault ----

    private int findFault() {
        int stands = standing();
        Integer place = new Roles(stands).fault();
        if (place != null) {
            return place;
        }
        if (stands < tokens.size()) {
            return tokens.get(stands).place;
        }
        if (!complete) {
            return end;
        }
        Set<String> known = new HashSet<>();
        for (int i = 1; i < tokens.size(); i++) {
            if (text(i - 1).equals("class")) {
                known.add(text(i));
            }
        }
        for (int i = 1; i < tokens.size(); i++) {
            boolean ofClass = text(i - 1).equals("new") || text(i - 1).equals("(") && text(i - 2).equals("=");
            if (ofClass && !known.contains(text(i))) {
                return tokens.get(i).place;
            }
        }
        return -1;
    }

    private boolean complete;

    /** How many tokens from the first on can stand by the grammar. */
    private int standing() {
        List<Stack> stacks = List.of(new Stack("PROGRAM", null));
        for (int i = 0; i < tokens.size(); i++) {
            List<Stack> next = new ArrayList<>();
            for (Stack s : stacks) {
                follow(s, tokens.get(i), next);
            }
            if (next.isEmpty()) {
                return i;
            }
            stacks = next;
        }
        complete = stacks.stream().anyMatch(Oracle::mayBeEmpty);
        return tokens.size();
    }

    private static boolean mayBeEmpty(Stack s) {
        for (Stack at = s; at != null; at = at.rest) {
            String[] ways = GRAMMAR.get(at.top);
            if (ways == null || !ways[0].isEmpty()) {
                return false;
            }
        }
        return true;
    }

    private static void follow(Stack s, Token token, List<Stack> next) {
        if (s == null) {
            return;
        }
        String[] ways = GRAMMAR.get(s.top);
        if (ways == null) {
            if (s.top.equals("NAME") ? token.isName() : s.top.equals(token.text)) {
                next.add(s.rest);
            }
            return;
        }
        for (String way : ways) {
            Stack pushed = s.rest;
            String[] symbols = way.isEmpty() ? new String[0] : way.split(" ");
            for (int i = symbols.length - 1; i >= 0; i--) {
                pushed = new Stack(symbols[i], pushed);
            }
            follow(pushed, token, next);
        }
    }

    private String text(int i) {
        return i >= 0 && i < tokens.size() ? tokens.get(i).text : "";
    }

    /** Goes through the tokens that stand and tells each one's role by its neighbours. */
    private final class Roles {
        private final int stands;
        private final Map<String, Set<String>> fieldsOf = new HashMap<>();
        private final Set<String> fieldNames = new HashSet<>();
        private final Set<String> methodsHere = new HashSet<>();
        private final Set<String> variablesHere = new HashSet<>();
        private final Map<String, Integer> counts = new HashMap<>();
        private String owner = "";
        private int braces;
        private boolean inHead;

        Roles(int stands) {
            this.stands = stands;
        }

        private boolean tooMany(String what, int limit) {
            return counts.merge(what, 1, Integer::sum) > limit;
        }

        Integer fault() {
            for (int i = 0; i < stands; i++) {
                if (isWrong(i)) {
                    return tokens.get(i).place;
                }
                braces += text(i).equals("{") ? 1 : text(i).equals("}") ? -1 : 0;
            }
            return null;
        }

        private boolean isWrong(int i) {
            String t = text(i);
            String before = text(i - 1);
            if (before.equals("class")) {
                owner = t;
                boolean wrong = fieldsOf.put(t, new HashSet<>()) != null;
                methodsHere.clear();
                return wrong | tooMany("class", 6);
            }
            if (before.equals(":")) {
                if (!fieldsOf.containsKey(t) || t.equals(owner)) {
                    return true;
                }
                fieldsOf.get(owner).addAll(fieldsOf.get(t));
                return false;
            }
            if (before.equals("field")) {
                return !fieldsOf.get(owner).add(t) || fieldNames.add(t) && fieldNames.size() > 8;
            }
            if (before.equals("def")) {
                inHead = true;
                variablesHere.clear();
                return !methodsHere.add(t) | tooMany("method", 10) | tooMany("variable", 48) | tooMany("variable", 48);
            }
            if (braces == 1) {
                inHead &= !t.equals("{");
                return inHead && tokens.get(i).isName() && (!variablesHere.add(t) || tooMany("variable", 48));
            }
            return braces > 1 && isWrongInBody(i, t, before);
        }

        private boolean isWrongInBody(int i, String t, String before) {
            boolean begins = Set.of("{", "}", ";").contains(before) && !t.equals("}") && !t.equals("else");
            if (begins && tooMany("statement", 40)) {
                return true;
            }
            if (t.equals("{")) {
                return braces > 4;
            }
            if (t.equals("new")) {
                return tooMany("new", 11);
            }
            if (t.equals("(") && before.equals("=")) {
                return tooMany("cast", 8);
            }
            if (before.equals(".")) {
                return text(i + 1).equals("(") && i + 1 < stands && tooMany("call", 12);
            }
            boolean ofClass = before.equals("new") || before.equals("(") && text(i - 2).equals("=");
            return tokens.get(i).isName() && !ofClass && variablesHere.add(t) && tooMany("variable", 48);
        }
    }

    // ---- the program ----

    private String next() {
        return tokens.get(at++).text;
    }

    private boolean skip(String t) {
        boolean there = text(at).equals(t);
        at += there ? 1 : 0;
        return there;
    }

    private void build() {
        sites.add(tokens.get(1).text);
        while (skip("class")) {
            classes.add(next());
            above.add(skip(":") ? classes.indexOf(next()) : -1);
            ownFields.add(new HashSet<>());
            skip("{");
            while (!skip("}")) {
                if (skip("field")) {
                    String f = next();
                    ownFields.get(classes.size() - 1).add(f);
                    if (!fields.contains(f)) {
                        fields.add(f);
                    }
                    skip(";");
                } else {
                    skip("def");
                    buildMethod(next());
                }
            }
        }
    }

    private void buildMethod(String name) {
        Method m = new Method(name, classes.size() - 1, variables.size(), new ArrayList<>(), new ArrayList<>());
        int number = methods.size();
        methods.add(m);
        variables.add(number + " result");
        variables.add(number + " this");
        skip("(");
        while (!skip(")")) {
            m.parameters.add(next());
            variables.add(number + " " + m.parameters.get(m.parameters.size() - 1));
            skip(",");
        }
        m.body.addAll(buildBody());
    }

    private List<Node> buildBody() {
        List<Node> body = new ArrayList<>();
        skip("{");
        while (!skip("}")) {
            body.add(buildNode());
        }
        return body;
    }

    private int variable() {
        String key = methods.size() - 1 + " " + next();
        if (!variables.contains(key)) {
            variables.add(key);
        }
        return variables.indexOf(key);
    }

    private Node buildNode() {
        Node n = new Node();
        n.method = methods.size() - 1;
        all.add(n);
        if (text(at).equals("if") || text(at).equals("while")) {
            n.kind = next();
            n.right = variable();
            n.first = buildBody();
            n.second = n.kind.equals("if") && skip("else") ? buildBody() : List.of();
            return n;
        }
        if (skip("return")) {
            n.kind = "copy";
            n.left = methods.get(n.method).result;
            n.right = variable();
            n.name = "return";
        } else if (text(at + 1).equals("=")) {
            n.left = variable();
            skip("=");
            buildRight(n);
        } else if (text(at + 3).equals("(")) {
            buildCall(n);
        } else {
            n.kind = "store";
            n.left = variable();
            skip(".");
            n.name = next();
            skip("=");
            n.right = variable();
        }
        skip(";");
        return n;
    }

    private void buildRight(Node n) {
        if (skip("new")) {
            n.kind = "new";
            n.number = sites.size();
            n.name = next();
            sites.add(n.name);
        } else if (skip("null")) {
            n.kind = "null";
        } else if (skip("(")) {
            n.kind = "cast";
            casts.add(n);
            n.name = next();
            skip(")");
            n.right = variable();
        } else if (text(at + 3).equals("(")) {
            buildCall(n);
        } else {
            n.kind = "copy";
            n.right = variable();
            if (skip(".")) {
                n.kind = "load";
                n.name = next();
            }
        }
    }

    private void buildCall(Node n) {
        n.kind = "call";
        n.number = calls.size();
        calls.add(n);
        n.right = variable();
        skip(".");
        n.name = next();
        skip("(");
        while (!skip(")")) {
            n.arguments.add(variable());
            skip(",");
        }
    }

    private int classOf(int site) {
        return classes.indexOf(sites.get(site));
    }

    private boolean below(int type, int upper) {
        return type == upper || above.get(type) >= 0 && below(above.get(type), upper);
    }

    private boolean has(int type, String field) {
        return ownFields.get(type).contains(field) || above.get(type) >= 0 && has(above.get(type), field);
    }

    private int found(int type, String name, int parameters) {
        if (type < 0) {
            return -1;
        }
        for (Method m : methods) {
            if (m.owner == type && m.name.equals(name)) {
                return m.parameters.size() == parameters ? methods.indexOf(m) : -1;
            }
        }
        return found(above.get(type), name, parameters);
    }

    // ---- the analysis ----

    private void analyse() {
        int start = found(0, "go", 0);
        if (start < 0) {
            return;
        }
        Set<String> fresh = new HashSet<>(Set.of("reached " + start, may(methods.get(start).self(), 0)));
        for (int round = 0; !fresh.isEmpty(); round++) {
            for (String f : fresh) {
                facts.put(f, round);
            }
            lastRound = round;
            fresh = new HashSet<>();
            for (Node n : all) {
                if (facts.containsKey("reached " + n.method)) {
                    fresh.addAll(following(n));
                }
            }
            fresh.removeAll(facts.keySet());
        }
    }

    static String may(int variable, int site) {
        return "may " + variable + " " + site;
    }

    private List<Integer> sitesOf(String prefix) {
        List<Integer> list = new ArrayList<>();
        for (int s = 0; s < sites.size(); s++) {
            if (facts.containsKey(prefix + " " + s)) {
                list.add(s);
            }
        }
        return list;
    }

    private Set<String> following(Node n) {
        Set<String> out = new HashSet<>();
        List<Integer> right = sitesOf("may " + n.right);
        switch (n.kind) {
            case "new" -> out.add(may(n.left, n.number));
            case "copy" -> right.forEach(s -> out.add(may(n.left, s)));
            case "cast" -> right.stream().filter(s -> below(classOf(s), classes.indexOf(n.name)))
                .forEach(s -> out.add(may(n.left, s)));
            case "load" -> right.forEach(s -> sitesOf("holds " + s + " " + fields.indexOf(n.name))
                .forEach(t -> out.add(may(n.left, t))));
            case "store" -> sitesOf("may " + n.left).stream().filter(s -> has(classOf(s), n.name))
                .forEach(s -> right.forEach(t -> out.add("holds " + s + " " + fields.indexOf(n.name) + " " + t)));
            case "call" -> followingCall(n, right, out);
            default -> { }
        }
        return out;
    }

    private void followingCall(Node n, List<Integer> right, Set<String> out) {
        for (int s : right) {
            int m = found(classOf(s), n.name, n.arguments.size());
            if (m >= 0) {
                out.addAll(List.of("goes " + n.number + " " + m, "reached " + m, may(methods.get(m).self(), s)));
            }
        }
        for (int m = 0; m < methods.size(); m++) {
            if (facts.containsKey("goes " + n.number + " " + m)) {
                Method callee = methods.get(m);
                for (int a = 0; a < n.arguments.size(); a++) {
                    int parameter = callee.parameter(a);
                    sitesOf("may " + n.arguments.get(a)).forEach(s -> out.add(may(parameter, s)));
                }
                if (n.left >= 0) {
                    sitesOf("may " + callee.result).forEach(s -> out.add(may(n.left, s)));
                }
            }
        }
    }

    int fact(String fact) {
        return facts.getOrDefault(fact, -1);
    }

    int pairs() {
        return (int) facts.keySet().stream().filter(f -> f.startsWith("may ")).count();
    }

    int safe(int cast) {
        Node n = casts.get(cast);
        return sitesOf("may " + n.right).stream().allMatch(s -> below(classOf(s), classes.indexOf(n.name))) ? 1 : 0;
    }

    int alias(int first, int second) {
        Set<Integer> both = new HashSet<>(sitesOf("may " + first));
        both.retainAll(sitesOf("may " + second));
        return both.isEmpty() ? 0 : 1;
    }

    // ---- the run ----

    private static final class Returned extends RuntimeException {
        private static final long serialVersionUID = 1;
    }

    boolean hasStart() {
        return found(0, "go", 0) >= 0;
    }

    int run() {
        if (!hasStart()) {
            throw new NoSuchElementException();
        }
        seen.clear();
        made = 0;
        begun = 0;
        runMethod(methods.get(found(0, "go", 0)), make(0), List.of(), 0);
        return begun;
    }

    private Thing make(int site) {
        if (made >= 30) {
            throw new IllegalStateException();
        }
        made++;
        return new Thing(site);
    }

    private void give(Map<Integer, Thing> frame, int variable, Thing value) {
        frame.put(variable, value);
        if (value != null) {
            seen.add(variable + " " + value.site);
        }
    }

    private Thing runMethod(Method m, Thing self, List<Thing> arguments, int others) {
        if (others >= 4) {
            throw new IllegalStateException();
        }
        Map<Integer, Thing> frame = new TreeMap<>();
        give(frame, m.self(), self);
        for (int a = 0; a < arguments.size(); a++) {
            give(frame, m.parameter(a), arguments.get(a));
        }
        try {
            runAll(m.body, frame, others);
        } catch (Returned e) {
            return frame.get(m.result);
        }
        return null;
    }

    private void begin() {
        begun++;
        if (begun > 200) {
            throw new IllegalStateException();
        }
    }

    private void runAll(List<Node> body, Map<Integer, Thing> frame, int others) {
        for (Node n : body) {
            begin();
            switch (n.kind) {
                case "if" -> runAll(frame.get(n.right) != null ? n.first : n.second, frame, others);
                case "while" -> {
                    while (frame.get(n.right) != null) {
                        runAll(n.first, frame, others);
                        begin();
                    }
                }
                case "store" -> fieldsOf(frame.get(n.left), n.name).put(n.name, frame.get(n.right));
                case "call" -> {
                    Thing value = runCall(n, frame, others);
                    if (n.left >= 0) {
                        give(frame, n.left, value);
                    }
                }
                default -> give(frame, n.left, valueOf(n, frame.get(n.right)));
            }
            if (n.name.equals("return") && n.kind.equals("copy")) {
                throw new Returned();
            }
        }
    }

    private Thing valueOf(Node n, Thing right) {
        switch (n.kind) {
            case "new":
                return make(n.number);
            case "cast":
                if (right != null && !below(classOf(right.site), classes.indexOf(n.name))) {
                    throw new UnsupportedOperationException();
                }
                return right;
            case "load":
                return fieldsOf(right, n.name).get(n.name);
            case "null":
                return null;
            default:
                return right;
        }
    }

    private Map<String, Thing> fieldsOf(Thing thing, String field) {
        if (thing == null) {
            throw new NoSuchElementException();
        }
        if (!has(classOf(thing.site), field)) {
            throw new IndexOutOfBoundsException();
        }
        return thing.fields;
    }

    private Thing runCall(Node n, Map<Integer, Thing> frame, int others) {
        Thing receiver = frame.get(n.right);
        if (receiver == null) {
            throw new NoSuchElementException();
        }
        int m = found(classOf(receiver.site), n.name, n.arguments.size());
        if (m < 0) {
            throw new IndexOutOfBoundsException();
        }
        List<Thing> arguments = new ArrayList<>();
        for (int a : n.arguments) {
            arguments.add(frame.get(a));
        }
        return runMethod(methods.get(m), receiver, arguments, others + 1);
    }
}
