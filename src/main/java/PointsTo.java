import java.util.Arrays;
import java.util.NoSuchElementException;

/**
 * A points-to analyser for a small language of objects: it reads a text, finds
 * out in rounds what variables, fields and calls may come to, and runs the
 * program to note what the variables did come to.
 */
public final class PointsTo {
    private static final int NONE = -1;
    private static final int MAX_TEXT = 320;
    private static final int LOWEST_CODE = 32;
    private static final int HIGHEST_CODE = 126;
    private static final int MAX_CLASSES = 6;
    private static final int MAX_METHODS = 10;
    private static final int MAX_FIELDS = 8;
    private static final int MAX_CALLS = 12;
    private static final int MAX_CASTS = 8;
    private static final int MAX_SITES = 12;
    private static final int MAX_VARIABLES = 48;
    private static final int MAX_STATEMENTS = 40;
    private static final int MAX_NESTING = 3;

    private final char[] text = new char[MAX_TEXT];
    private final Parser parser = new Parser();
    private final Facts facts = new Facts();
    private final Machine machine = new Machine();
    // An empty program stands for none: its counts are 0 and it has no start.
    private Program program = new Program();
    // A text is read into the spare one, so that a fault leaves the program as it was.
    private Program spare = new Program();
    private int length;
    private int fault = NONE;

    public PointsTo() {
    }

    public int append(long value, int n) throws IllegalArgumentException, IllegalStateException {
        if (n < 1 || n > 8 || !codesMayStand(value, n)) {
            throw new IllegalArgumentException();
        }
        if (length + n > MAX_TEXT) {
            throw new IllegalStateException();
        }
        for (int i = 1; i <= n; i++) {
            text[length] = (char) codeOf(value, n - i);
            length++;
        }
        return length;
    }

    public int cut(int n) throws IllegalArgumentException {
        if (n < 0 || n > length) {
            throw new IllegalArgumentException();
        }
        length -= n;
        return length;
    }

    public int read() throws IllegalArgumentException {
        fault = parser.parse(text, length, spare);
        if (fault != NONE) {
            throw new IllegalArgumentException();
        }
        Program last = program;
        program = spare;
        spare = last;
        facts.find(program);
        machine.forgetSeen();
        return facts.pairs();
    }

    public int fault() {
        return fault;
    }

    public int may(int variable, int site) throws NoSuchElementException {
        if (!hasVariable(variable) || !hasSite(site)) {
            throw new NoSuchElementException();
        }
        return facts.may[variable][site];
    }

    public int holds(int site, int field, int target) throws NoSuchElementException {
        if (!hasSite(site) || !isBelow(field, program.fieldCount) || !hasSite(target)) {
            throw new NoSuchElementException();
        }
        return facts.heldBy(site, field)[target];
    }

    public int goes(int call, int method) throws NoSuchElementException {
        if (!isBelow(call, program.callCount) || !hasMethod(method)) {
            throw new NoSuchElementException();
        }
        return facts.goes[call][method];
    }

    public int reached(int method) throws NoSuchElementException {
        if (!hasMethod(method)) {
            throw new NoSuchElementException();
        }
        return facts.reached[method];
    }

    public int safe(int cast) throws NoSuchElementException {
        if (!isBelow(cast, program.castCount)) {
            throw new NoSuchElementException();
        }
        return facts.castNeverFails(program.statements[program.castStatement[cast]]) ? 1 : 0;
    }

    public int alias(int first, int second) throws NoSuchElementException {
        if (!hasVariable(first) || !hasVariable(second)) {
            throw new NoSuchElementException();
        }
        return facts.shareSite(first, second) ? 1 : 0;
    }

    public int method(int method, int what) throws NoSuchElementException, IllegalArgumentException {
        if (!hasMethod(method)) {
            throw new NoSuchElementException();
        }
        Method asked = program.methods[method];
        switch (what) {
            case 0:
                return asked.result;
            case 1:
                return asked.self();
            case 2:
                return asked.parameter(0);
            case 3:
                return asked.parameter(1);
            case 4:
                return asked.owner;
            default:
                throw new IllegalArgumentException();
        }
    }

    public int run() throws NoSuchElementException, UnsupportedOperationException,
            IndexOutOfBoundsException, IllegalStateException {
        if (program.start == NONE) {
            throw new NoSuchElementException();
        }
        machine.execute(program);
        return machine.begun;
    }

    public int seen(int variable, int site) throws NoSuchElementException {
        if (!hasVariable(variable) || !hasSite(site)) {
            throw new NoSuchElementException();
        }
        return machine.seen[variable][site];
    }

    public int count(int what) throws IllegalArgumentException {
        switch (what) {
            case 0:
                return program.classCount;
            case 1:
                return program.methodCount;
            case 2:
                return program.fieldCount;
            case 3:
                return program.callCount;
            case 4:
                return program.castCount;
            case 5:
                return program.siteCount;
            case 6:
                return program.variableCount;
            case 7:
                return facts.lastRound;
            case 8:
                return machine.made;
            case 9:
                return length;
            default:
                throw new IllegalArgumentException();
        }
    }

    private static boolean isBelow(int number, int bound) {
        return number >= 0 && number < bound;
    }

    private static int codeOf(long value, int place) {
        return (int) (value >>> (8 * place)) & 255;
    }

    private static boolean codesMayStand(long value, int n) {
        for (int i = 0; i < n; i++) {
            int code = codeOf(value, i);
            if (code < LOWEST_CODE || code > HIGHEST_CODE) {
                return false;
            }
        }
        return true;
    }

    private boolean hasVariable(int variable) {
        return isBelow(variable, program.variableCount);
    }

    private boolean hasSite(int site) {
        return isBelow(site, program.siteCount);
    }

    private boolean hasMethod(int method) {
        return isBelow(method, program.methodCount);
    }

    /** Parts a text into tokens, which stand in rows under their numbers. */
    private static final class Tokens {
        static final int END = 0;
        static final int CLASS = 1;
        static final int FIELD = 2;
        static final int DEF = 3;
        static final int NEW = 4;
        static final int NULL = 5;
        static final int IF = 6;
        static final int ELSE = 7;
        static final int WHILE = 8;
        static final int RETURN = 9;
        static final int THIS = 10;
        static final int NAME = 11;
        // A token that can not stand anywhere.
        static final int BAD = 12;
        private static final int MAX_WORD = 6;

        // The words that are no names, each at the index of its kind.
        private final int[] words = {
            NONE, nameCode("class"), nameCode("field"), nameCode("def"), nameCode("new"), nameCode("null"),
            nameCode("if"), nameCode("else"), nameCode("while"), nameCode("return"), nameCode("this")};
        // One of the kinds above, or of { } ( ) = . , ; : the character itself; the last one is END.
        final int[] kind = new int[MAX_TEXT + 1];
        final int[] place = new int[MAX_TEXT + 1];
        final int[] name = new int[MAX_TEXT + 1];
        private int size;

        /** A word of at most six letters as one number, so that names compare as numbers. */
        static int nameCode(String word) {
            int code = 0;
            for (int i = 0; i < word.length(); i++) {
                code = withLetter(code, word.charAt(i));
            }
            return code;
        }

        private static int withLetter(int code, char letter) {
            return code * 32 + (letter - 'a' + 1);
        }

        void split(char[] text, int length) {
            size = 0;
            int end = 0;
            int wordLength = 0;
            for (int i = 0; i < length; i++) {
                char c = text[i];
                if (isLetter(c)) {
                    wordLength++;
                    addLetter(c, i, wordLength);
                } else {
                    wordLength = 0;
                    if (c != ' ') {
                        add(isSign(c) ? c : BAD, i);
                    }
                }
                end = c == ' ' ? end : i + 1;
            }
            // A token that lacks is told behind the last one, not behind the blanks.
            add(END, end);
            tellWords();
        }

        private static boolean isLetter(char c) {
            return c >= 'a' && c <= 'z';
        }

        private static boolean isSign(char c) {
            return c == '{' || c == '}' || c == '(' || c == ')' || c == '=' || c == '.' || c == ','
                || c == ';' || c == ':';
        }

        private void add(int newKind, int newPlace) {
            kind[size] = newKind;
            place[size] = newPlace;
            name[size] = 0;
            size++;
        }

        private void addLetter(char letter, int at, int wordLength) {
            if (wordLength == 1) {
                add(NAME, at);
            }
            int last = size - 1;
            name[last] = withLetter(name[last], letter);
            if (wordLength > MAX_WORD) {
                kind[last] = BAD;
            }
        }

        private void tellWords() {
            for (int i = 0; i < size; i++) {
                for (int word = 1; word < words.length && kind[i] == NAME; word++) {
                    if (words[word] == name[i]) {
                        kind[i] = word;
                    }
                }
            }
        }
    }

    /** A method; its variables stand in a row: result, this, parameters, others. */
    private static final class Method {
        int name;
        int owner;
        int result;
        int parameters;
        int firstStatement;
        int endStatement;

        int self() {
            return result + 1;
        }

        int parameter(int number) {
            return number < parameters ? result + 2 + number : NONE;
        }
    }

    /** A statement; those of its bodies follow it in the program's row. */
    private static final class Statement {
        static final int IF = 0;
        static final int WHILE = 1;
        static final int RETURN = 2;
        static final int STORE = 3;
        static final int CALL = 4;
        static final int NEW = 5;
        static final int NULL = 6;
        static final int CAST = 7;
        static final int COPY = 8;
        static final int LOAD = 9;

        int kind;
        int method;
        // What is given a value: the variable before =, the result, of a store the variable before the dot.
        int target;
        // What it is taken from: the variable tested or copied, before the dot, of a store that behind =.
        int source;
        // The name of a field, a method or a class, and its place in the text.
        int name;
        int place;
        // The number of the field, call or site; NONE for a field that no class declares.
        int number;
        // The class behind new or of the cast.
        int type;
        int arguments;
        int firstArgument;
        int secondArgument;
        // Where the first body ends, and where the whole statement does.
        int bodyEnd;
        int end;
    }

    /** What was read from a text: its classes, methods and statements under their numbers. */
    private static final class Program {
        private final int[] className = new int[MAX_CLASSES];
        private final int[] classAbove = new int[MAX_CLASSES];
        // The field names that a class has, those of the classes above it too, as bits.
        private final int[] classFields = new int[MAX_CLASSES];
        private final int[] fieldName = new int[MAX_FIELDS];
        private final int[] variableName = new int[MAX_VARIABLES];
        final Method[] methods = new Method[MAX_METHODS];
        final Statement[] statements = new Statement[MAX_STATEMENTS];
        final int[] siteClass = new int[MAX_SITES];
        final int[] castStatement = new int[MAX_CASTS];
        int classCount;
        int methodCount;
        int fieldCount;
        int callCount;
        int castCount;
        int siteCount;
        int variableCount;
        int statementCount;
        int start = NONE;

        Program() {
            for (int i = 0; i < MAX_METHODS; i++) {
                methods[i] = new Method();
            }
            for (int i = 0; i < MAX_STATEMENTS; i++) {
                statements[i] = new Statement();
            }
        }

        void clear() {
            classCount = 0;
            methodCount = 0;
            fieldCount = 0;
            callCount = 0;
            castCount = 0;
            // Site 0 is that of the start's object, which no text makes; it is always of class 0.
            siteCount = 1;
            variableCount = 0;
            statementCount = 0;
        }

        private static int indexIn(int[] row, int end, int value) {
            for (int i = 0; i < end; i++) {
                if (row[i] == value) {
                    return i;
                }
            }
            return NONE;
        }

        int classNamed(int name) {
            return indexIn(className, classCount, name);
        }

        int fieldNamed(int name) {
            return indexIn(fieldName, fieldCount, name);
        }

        boolean isClassBelow(int type, int upper) {
            int at = type;
            for (int i = 0; i < MAX_CLASSES && at != NONE; i++) {
                if (at == upper) {
                    return true;
                }
                at = classAbove[at];
            }
            return false;
        }

        boolean hasField(int type, int field) {
            return field != NONE && (classFields[type] >> field & 1) == 1;
        }

        private int declared(int type, int name) {
            for (int i = 0; i < methodCount; i++) {
                if (methods[i].owner == type && methods[i].name == name) {
                    return i;
                }
            }
            return NONE;
        }

        /** The method found for a class, NONE if there is none. */
        int found(int type, int name, int parameters) {
            int at = type;
            for (int i = 0; i < MAX_CLASSES && at != NONE; i++) {
                int candidate = declared(at, name);
                if (candidate != NONE) {
                    return methods[candidate].parameters == parameters ? candidate : NONE;
                }
                at = classAbove[at];
            }
            return NONE;
        }

        boolean addClass(int name) {
            if (classCount == MAX_CLASSES || classNamed(name) != NONE) {
                return false;
            }
            className[classCount] = name;
            classAbove[classCount] = NONE;
            classFields[classCount] = 0;
            classCount++;
            return true;
        }

        /** Puts the newest class below an earlier one. */
        boolean putBelow(int name) {
            int newest = classCount - 1;
            int above = classNamed(name);
            if (above == NONE || above == newest) {
                return false;
            }
            classAbove[newest] = above;
            classFields[newest] = classFields[above];
            return true;
        }

        /** Adds a field to the newest class. */
        boolean addField(int name) {
            int newest = classCount - 1;
            int number = fieldNamed(name);
            if (number == NONE) {
                if (fieldCount == MAX_FIELDS) {
                    return false;
                }
                number = fieldCount;
                fieldName[fieldCount] = name;
                fieldCount++;
            }
            if (hasField(newest, number)) {
                return false;
            }
            classFields[newest] |= 1 << number;
            return true;
        }

        /** Adds a method to the newest class, with its result and its this. */
        boolean addMethod(int name) {
            int newest = classCount - 1;
            if (methodCount == MAX_METHODS || variableCount + 2 > MAX_VARIABLES || declared(newest, name) != NONE) {
                return false;
            }
            Method added = methods[methodCount];
            added.name = name;
            added.owner = newest;
            added.result = variableCount;
            added.parameters = 0;
            methodCount++;
            // No name has the code 0, so that neither of these is found by a name.
            variableName[variableCount] = 0;
            variableName[variableCount + 1] = 0;
            variableCount += 2;
            return true;
        }

        /** Adds a parameter to the newest method. */
        boolean addParameter(int name) {
            int before = variableCount;
            variableOf(name);
            if (variableCount == before) {
                return false;
            }
            methods[methodCount - 1].parameters++;
            return true;
        }

        /** The variable of a name in the newest method, a new one if need be, NONE if that is one too many. */
        int variableOf(int name) {
            for (int i = methods[methodCount - 1].result; i < variableCount; i++) {
                if (variableName[i] == name) {
                    return i;
                }
            }
            if (variableCount == MAX_VARIABLES) {
                return NONE;
            }
            variableName[variableCount] = name;
            variableCount++;
            return variableCount - 1;
        }

        /** A new statement of the newest method; there is room for it. */
        Statement addStatement() {
            Statement added = statements[statementCount];
            added.method = methodCount - 1;
            added.target = NONE;
            added.arguments = 0;
            statementCount++;
            return added;
        }

        boolean addCall(Statement s) {
            if (callCount == MAX_CALLS) {
                return false;
            }
            s.kind = Statement.CALL;
            s.number = callCount;
            callCount++;
            return true;
        }

        boolean addSite(Statement s) {
            if (siteCount == MAX_SITES) {
                return false;
            }
            s.kind = Statement.NEW;
            s.number = siteCount;
            siteCount++;
            return true;
        }

        /** Makes the newest statement a cast. */
        boolean addCast(Statement s) {
            if (castCount == MAX_CASTS) {
                return false;
            }
            s.kind = Statement.CAST;
            castStatement[castCount] = statementCount - 1;
            castCount++;
            return true;
        }

        /** Finds what the names stand for; answers the place of the first class name that no class has. */
        int resolve() {
            for (int i = 0; i < statementCount; i++) {
                Statement s = statements[i];
                if (s.kind == Statement.LOAD || s.kind == Statement.STORE) {
                    s.number = fieldNamed(s.name);
                } else if (s.kind == Statement.NEW || s.kind == Statement.CAST) {
                    s.type = classNamed(s.name);
                    if (s.type == NONE) {
                        return s.place;
                    }
                    if (s.kind == Statement.NEW) {
                        siteClass[s.number] = s.type;
                    }
                }
            }
            start = found(0, Tokens.nameCode("go"), 0);
            return NONE;
        }
    }

    /** Reads a text into a program; each part answers false behind a fault. */
    private static final class Parser {
        private final Tokens tokens = new Tokens();
        private Program program;
        // The token that is looked at.
        private int at;
        private boolean ended;
        private int fault;

        /** Answers the place of the fault, NONE if there is none. */
        int parse(char[] text, int length, Program into) {
            program = into;
            program.clear();
            tokens.split(text, length);
            at = 0;
            ended = false;
            boolean good = parseClassHead();
            for (int i = 0; i < MAX_TEXT && good && !ended; i++) {
                switch (kind()) {
                    case Tokens.FIELD:
                        good = parseField();
                        break;
                    case Tokens.DEF:
                        good = parseMethod();
                        break;
                    case '}':
                        good = parseClassEnd();
                        break;
                    default:
                        good = refuse();
                        break;
                }
            }
            return good ? program.resolve() : fault;
        }

        private int kind() {
            return tokens.kind[at];
        }

        private int name() {
            return tokens.name[at];
        }

        private boolean refuse() {
            fault = tokens.place[at];
            return false;
        }

        private boolean take(int wanted) {
            if (tokens.kind[at] != wanted) {
                fault = tokens.place[at];
                return false;
            }
            at++;
            return true;
        }

        /** A class up to its first member. */
        private boolean parseClassHead() {
            if (!take(Tokens.CLASS)) {
                return false;
            }
            if (kind() != Tokens.NAME || !program.addClass(name())) {
                return refuse();
            }
            at++;
            if (kind() == ':') {
                at++;
                if (kind() != Tokens.NAME || !program.putBelow(name())) {
                    return refuse();
                }
                at++;
            }
            return take('{');
        }

        private boolean parseClassEnd() {
            at++;
            ended = kind() == Tokens.END;
            return ended || parseClassHead();
        }

        private boolean parseField() {
            at++;
            if (kind() != Tokens.NAME || !program.addField(name())) {
                return refuse();
            }
            at++;
            return take(';');
        }

        private boolean parseMethod() {
            at++;
            if (kind() != Tokens.NAME || !program.addMethod(name())) {
                return refuse();
            }
            at++;
            Method method = program.methods[program.methodCount - 1];
            method.firstStatement = program.statementCount;
            boolean good = take('(') && parseParameters() && take(')') && parseBody(0);
            method.endStatement = program.statementCount;
            return good;
        }

        private boolean parseParameters() {
            if (kind() == ')') {
                return true;
            }
            if (!parseParameter()) {
                return false;
            }
            if (kind() != ',') {
                return true;
            }
            at++;
            return parseParameter();
        }

        private boolean parseParameter() {
            if (kind() != Tokens.NAME || !program.addParameter(name())) {
                return refuse();
            }
            at++;
            return true;
        }

        /** The depth is that among the bodies of statements, 0 for a method's. */
        private boolean parseBody(int depth) {
            if (depth > MAX_NESTING) {
                return refuse();
            }
            boolean good = take('{');
            for (int i = 0; i <= MAX_STATEMENTS && good && kind() != '}'; i++) {
                if (program.statementCount == MAX_STATEMENTS) {
                    return refuse();
                }
                Statement s = program.addStatement();
                switch (kind()) {
                    case Tokens.IF:
                    case Tokens.WHILE:
                        good = parseBranch(s, depth);
                        break;
                    case Tokens.RETURN:
                        good = parseReturn(s) && take(';');
                        break;
                    default:
                        good = parseSimple(s) && take(';');
                        break;
                }
                s.end = program.statementCount;
            }
            return good && take('}');
        }

        private boolean parseBranch(Statement s, int depth) {
            s.kind = kind() == Tokens.IF ? Statement.IF : Statement.WHILE;
            at++;
            s.source = parseVariable();
            if (s.source == NONE || !parseBody(depth + 1)) {
                return false;
            }
            s.bodyEnd = program.statementCount;
            if (s.kind == Statement.WHILE || kind() != Tokens.ELSE) {
                return true;
            }
            at++;
            return parseBody(depth + 1);
        }

        private boolean parseReturn(Statement s) {
            s.kind = Statement.RETURN;
            s.target = program.methods[s.method].result;
            at++;
            s.source = parseVariable();
            return s.source != NONE;
        }

        /** Answers the number of a variable, NONE behind a fault. */
        private int parseVariable() {
            int number = NONE;
            if (kind() == Tokens.THIS) {
                number = program.methods[program.methodCount - 1].self();
            } else if (kind() == Tokens.NAME) {
                number = program.variableOf(name());
            }
            if (number == NONE) {
                refuse();
            } else {
                at++;
            }
            return number;
        }

        /** An assignment, a store or a call, up to its semicolon. */
        private boolean parseSimple(Statement s) {
            boolean mayBeGiven = kind() == Tokens.NAME;
            int first = parseVariable();
            if (first == NONE) {
                return false;
            }
            boolean isGiven = mayBeGiven && kind() == '=';
            if (isGiven) {
                s.target = first;
                at++;
                if (!parseRight(s)) {
                    return false;
                }
            } else {
                s.source = first;
                // Until more is seen, a name behind a dot is taken for the field of a load.
                s.kind = Statement.LOAD;
                if (!parseNameBehind('.', s)) {
                    return false;
                }
            }
            if (s.kind == Statement.LOAD && kind() == '(') {
                return parseCall(s);
            }
            return isGiven || parseStored(s);
        }

        /** The end of a store, whose variable before the dot was taken for the source of a load. */
        private boolean parseStored(Statement s) {
            s.kind = Statement.STORE;
            s.target = s.source;
            if (!take('=')) {
                return false;
            }
            s.source = parseVariable();
            return s.source != NONE;
        }

        /** A name behind a dot, behind new or in the brackets of a cast. */
        private boolean parseNameBehind(int mark, Statement s) {
            if (!take(mark)) {
                return false;
            }
            s.name = tokens.name[at];
            s.place = tokens.place[at];
            return take(Tokens.NAME);
        }

        /** From the bracket on; that the name before it is one too many shows only here. */
        private boolean parseCall(Statement s) {
            if (!program.addCall(s)) {
                fault = s.place;
                return false;
            }
            at++;
            if (kind() != ')') {
                s.firstArgument = parseVariable();
                s.arguments = 1;
                if (s.firstArgument == NONE) {
                    return false;
                }
            }
            if (s.arguments == 1 && kind() == ',') {
                at++;
                s.secondArgument = parseVariable();
                s.arguments = 2;
                if (s.secondArgument == NONE) {
                    return false;
                }
            }
            return take(')');
        }

        private boolean parseRight(Statement s) {
            switch (kind()) {
                case Tokens.NEW:
                    return program.addSite(s) ? parseNameBehind(Tokens.NEW, s) : refuse();
                case Tokens.NULL:
                    s.kind = Statement.NULL;
                    return take(Tokens.NULL);
                case '(':
                    if (!program.addCast(s)) {
                        return refuse();
                    }
                    if (!parseNameBehind('(', s) || !take(')')) {
                        return false;
                    }
                    s.source = parseVariable();
                    return s.source != NONE;
                default:
                    s.source = parseVariable();
                    s.kind = kind() == '.' ? Statement.LOAD : Statement.COPY;
                    return s.source != NONE && (s.kind == Statement.COPY || parseNameBehind('.', s));
            }
        }
    }

    /** The facts of the analysis, each as the round in which it was found, NONE before that. */
    private static final class Facts {
        // Each round but the first brings a fact: there can not be more rounds than facts.
        private static final int MAX_ROUNDS = 2000;

        final int[][] may = new int[MAX_VARIABLES][MAX_SITES];
        final int[][] goes = new int[MAX_CALLS][MAX_METHODS];
        final int[] reached = new int[MAX_METHODS];
        private final int[][] held = new int[MAX_SITES * MAX_FIELDS][MAX_SITES];
        private Program program;
        // Facts of the rounds up to this one are known, those that follow are of the next.
        private int round;
        int lastRound;

        void find(Program newProgram) {
            program = newProgram;
            clear();
            if (program.start == NONE) {
                return;
            }
            reached[program.start] = 0;
            may[program.methods[program.start].self()][0] = 0;
            for (round = 0; round < MAX_ROUNDS && round == lastRound; round++) {
                for (int i = 0; i < program.statementCount; i++) {
                    Statement s = program.statements[i];
                    if (isKnown(reached[s.method])) {
                        follow(s);
                    }
                }
            }
        }

        private void clear() {
            empty(may);
            empty(goes);
            empty(held);
            Arrays.fill(reached, NONE);
            lastRound = 0;
        }

        private static void empty(int[][] rows) {
            for (int i = 0; i < rows.length; i++) {
                Arrays.fill(rows[i], NONE);
            }
        }

        private boolean isKnown(int found) {
            return found != NONE && found <= round;
        }

        private void tell(int[] row, int index) {
            if (row[index] == NONE) {
                row[index] = round + 1;
                lastRound = round + 1;
            }
        }

        private void tellAll(int[] from, int[] to) {
            for (int i = 0; i < program.siteCount; i++) {
                if (isKnown(from[i])) {
                    tell(to, i);
                }
            }
        }

        private void follow(Statement s) {
            switch (s.kind) {
                case Statement.NEW:
                    tell(may[s.target], s.number);
                    break;
                case Statement.COPY:
                case Statement.RETURN:
                    tellAll(may[s.source], may[s.target]);
                    break;
                case Statement.CAST:
                    followCast(s);
                    break;
                case Statement.LOAD:
                    followLoad(s);
                    break;
                case Statement.STORE:
                    followStore(s);
                    break;
                case Statement.CALL:
                    followReceivers(s);
                    followValues(s);
                    break;
                default:
                    break;
            }
        }

        private void followCast(Statement s) {
            for (int site = 0; site < program.siteCount; site++) {
                if (isKnown(may[s.source][site]) && program.isClassBelow(program.siteClass[site], s.type)) {
                    tell(may[s.target], site);
                }
            }
        }

        private void followLoad(Statement s) {
            for (int site = 0; site < program.siteCount; site++) {
                if (isKnown(may[s.source][site]) && s.number != NONE) {
                    tellAll(heldBy(site, s.number), may[s.target]);
                }
            }
        }

        private void followStore(Statement s) {
            for (int site = 0; site < program.siteCount; site++) {
                if (isKnown(may[s.target][site]) && program.hasField(program.siteClass[site], s.number)) {
                    tellAll(may[s.source], heldBy(site, s.number));
                }
            }
        }

        private void followReceivers(Statement s) {
            for (int site = 0; site < program.siteCount; site++) {
                if (isKnown(may[s.source][site])) {
                    int callee = program.found(program.siteClass[site], s.name, s.arguments);
                    if (callee != NONE) {
                        tell(goes[s.number], callee);
                        tell(reached, callee);
                        tell(may[program.methods[callee].self()], site);
                    }
                }
            }
        }

        private void followValues(Statement s) {
            for (int i = 0; i < program.methodCount; i++) {
                if (isKnown(goes[s.number][i])) {
                    followCallee(s, program.methods[i]);
                }
            }
        }

        private void followCallee(Statement s, Method callee) {
            if (s.arguments > 0) {
                tellAll(may[s.firstArgument], may[callee.parameter(0)]);
            }
            if (s.arguments > 1) {
                tellAll(may[s.secondArgument], may[callee.parameter(1)]);
            }
            if (s.target != NONE) {
                tellAll(may[callee.result], may[s.target]);
            }
        }

        int[] heldBy(int site, int field) {
            return held[site * MAX_FIELDS + field];
        }

        /** How many pairs of a variable and a site that it may be there are. */
        int pairs() {
            int found = 0;
            for (int variable = 0; variable < program.variableCount; variable++) {
                for (int site = 0; site < program.siteCount; site++) {
                    if (may[variable][site] != NONE) {
                        found++;
                    }
                }
            }
            return found;
        }

        boolean castNeverFails(Statement cast) {
            for (int site = 0; site < program.siteCount; site++) {
                if (may[cast.source][site] != NONE && !program.isClassBelow(program.siteClass[site], cast.type)) {
                    return false;
                }
            }
            return true;
        }

        boolean shareSite(int first, int second) {
            for (int site = 0; site < program.siteCount; site++) {
                if (may[first][site] != NONE && may[second][site] != NONE) {
                    return true;
                }
            }
            return false;
        }
    }

    /** Runs a program; an object is its number in the order of making, NONE is null. */
    private static final class Machine {
        private static final int MAX_BEGUN = 200;
        private static final int MAX_OBJECTS = 30;
        private static final int MAX_OPEN = 4;

        final int[][] seen = new int[MAX_VARIABLES][MAX_SITES];
        private final int[] objectSite = new int[MAX_OBJECTS];
        private final int[][] objectFields = new int[MAX_OBJECTS][MAX_FIELDS];
        // The variables of the methods that are being run, the outermost first.
        private final int[][] frames = new int[MAX_OPEN][MAX_VARIABLES];
        private Program program;
        int made;
        int begun;

        void forgetSeen() {
            for (int i = 0; i < MAX_VARIABLES; i++) {
                Arrays.fill(seen[i], 0);
            }
        }

        /** Runs a program that has a start. */
        void execute(Program newProgram) {
            program = newProgram;
            forgetSeen();
            made = 0;
            begun = 0;
            int first = make(0);
            Method start = program.methods[program.start];
            give(openFrame(0), start.self(), first);
            runBody(start.firstStatement, start.endStatement, 0);
        }

        private int make(int site) {
            if (made == MAX_OBJECTS) {
                throw new IllegalStateException();
            }
            int object = made;
            made++;
            objectSite[object] = site;
            Arrays.fill(objectFields[object], NONE);
            return object;
        }

        private int[] openFrame(int depth) {
            if (depth >= MAX_OPEN) {
                throw new IllegalStateException();
            }
            Arrays.fill(frames[depth], NONE);
            return frames[depth];
        }

        private void begin() {
            if (begun == MAX_BEGUN) {
                throw new IllegalStateException();
            }
            begun++;
        }

        private void give(int[] frame, int variable, int object) {
            frame[variable] = object;
            if (object != NONE) {
                seen[variable][objectSite[object]] = 1;
            }
        }

        /** Runs the statements of a body; answers whether one of them ended the method. */
        private boolean runBody(int from, int end, int depth) {
            int at = from;
            for (int i = 0; i < MAX_STATEMENTS && at < end; i++) {
                if (runStatement(at, depth)) {
                    return true;
                }
                at = program.statements[at].end;
            }
            return false;
        }

        private boolean runStatement(int at, int depth) {
            begin();
            Statement s = program.statements[at];
            int[] frame = frames[depth];
            switch (s.kind) {
                case Statement.IF:
                    return frame[s.source] != NONE
                        ? runBody(at + 1, s.bodyEnd, depth)
                        : runBody(s.bodyEnd, s.end, depth);
                case Statement.WHILE:
                    return runWhile(at, depth);
                case Statement.RETURN:
                    give(frame, s.target, frame[s.source]);
                    return true;
                case Statement.STORE:
                    objectFields[holder(frame[s.target], s.number)][s.number] = frame[s.source];
                    return false;
                case Statement.CALL:
                    runCall(s, depth);
                    return false;
                default:
                    give(frame, s.target, rightOf(s, frame));
                    return false;
            }
        }

        private boolean runWhile(int at, int depth) {
            Statement s = program.statements[at];
            for (int i = 0; i <= MAX_BEGUN && frames[depth][s.source] != NONE; i++) {
                if (runBody(at + 1, s.bodyEnd, depth)) {
                    return true;
                }
                begin();
            }
            return false;
        }

        private int rightOf(Statement s, int[] frame) {
            switch (s.kind) {
                case Statement.NEW:
                    return make(s.number);
                case Statement.CAST:
                    return castTo(s.type, frame[s.source]);
                case Statement.COPY:
                    return frame[s.source];
                case Statement.LOAD:
                    return objectFields[holder(frame[s.source], s.number)][s.number];
                default:
                    return NONE;
            }
        }

        private int classOf(int object) {
            if (object == NONE) {
                throw new NoSuchElementException();
            }
            return program.siteClass[objectSite[object]];
        }

        /** The object itself, if it is one that has the field. */
        private int holder(int object, int field) {
            if (!program.hasField(classOf(object), field)) {
                throw new IndexOutOfBoundsException();
            }
            return object;
        }

        private int castTo(int type, int object) {
            if (object != NONE && !program.isClassBelow(classOf(object), type)) {
                throw new UnsupportedOperationException();
            }
            return object;
        }

        private void runCall(Statement s, int depth) {
            int[] caller = frames[depth];
            int receiver = caller[s.source];
            int found = program.found(classOf(receiver), s.name, s.arguments);
            if (found == NONE) {
                throw new IndexOutOfBoundsException();
            }
            Method callee = program.methods[found];
            int[] frame = openFrame(depth + 1);
            give(frame, callee.self(), receiver);
            if (s.arguments > 0) {
                give(frame, callee.parameter(0), caller[s.firstArgument]);
            }
            if (s.arguments > 1) {
                give(frame, callee.parameter(1), caller[s.secondArgument]);
            }
            runBody(callee.firstStatement, callee.endStatement, depth + 1);
            if (s.target != NONE) {
                give(caller, s.target, frame[callee.result]);
            }
        }
    }
}
