import java.util.Set;

/** The boundary cases of the terms and of promises 4 and 5, sentence by sentence; ^ stands before the faulty token. */
public final class ReadBoundsTest {
    private static final Check CHECK = new Check("ReadBoundsTest");
    private static final String[] WORDS = {"class", "field", "def", "new", "null", "if", "else", "while", "return", "this"};
    private static final String SIGNS = "{}()=.,;:";
    private static final String NAMES = "abcdefghijklmnoqrstuvw";

    // Where the grammar has a NAME that is no VAR: % stands in its place.
    private static final String[] NAME_PLACES = {
        "class ^%{}", "class %{}class b:^%{}", "class a{field ^%;}", "class a{def ^%(){}}", "class a{def m(^%){}}",
        "class a{def m(p,^%){}}", "class a{def m(){x=x.^%;}}", "class a{def m(){x.^%=x;}}", "class a{def m(){x.^%();}}",
        "class a{def m(){x=this.^%(x);}}", "class %{def m(){x=new ^%;}}", "class %{def m(){x=(^%)x;}}"};
    // Where it has a VAR.
    private static final String[] VAR_PLACES = {
        "if ^%{}", "while ^%{}", "return ^%;", "p.f=^%;", "p=^%;", "p=(a)^%;", "p=^%.f;", "p=^%.m();", "p.m(^%);",
        "p.m(p,^%);", "p=p.m(^%);", "p=p.m(p,^%);", "if p{^%.f=p;}", "^%.f=p;", "^%.m();"};

    public static void main(String[] args) {
        otherCharacters();
        lettersAndBlanks();
        longWords();
        wordsThatAreNoNames();
        wordsThatAreNames();
        oneOrNone();
        nothingMore();
        lackingTokens();
        emptyTexts();
        classes();
        methods();
        fieldNames();
        calls();
        casts();
        sites();
        variables();
        resultAndThis();
        statements();
        nesting();
        repeatedNames();
        firstOfTwoFaults();
        unknownClasses();
        refusedRead();
        faultOfTheLastRead();
        readAgain();
        CHECK.end();
    }

    private static void at(String marked) {
        CHECK.faultAt(marked);
    }

    private static void inBody(String marked) {
        at("class a{def m(p){" + marked + "}}");
    }

    /** A text that is full of what a count tells, and reads without a fault. */
    private static void full(String text, int what, int count) {
        at(text);
        CHECK.due("count " + what + " of " + text, () -> Check.reader(text).count(what), count);
    }

    /** "Another character ... can not stand anywhere." */
    private static void otherCharacters() {
        String text = "class a{def m(p){p=(a)this;}}";
        int[] places = {0, 5, 6, 7, 8, 15, 17, 19, 20, 28, 29};
        for (char c = 33; c <= 126; c++) {
            if (!Character.isLowerCase(c) && SIGNS.indexOf(c) < 0) {
                for (int place : places) {
                    at(text.substring(0, place) + "^" + c + text.substring(place));
                }
            }
        }
        at("^clAss a{}");
        at("class a^Z{}");
        at("class a^_b{}");
        at("class a^0{}");
    }

    /** "TOKENS, blanks parting them: a WORD, as many small letters as stand together". */
    private static void lettersAndBlanks() {
        at("class az{}class za{}class aazz{}");
        at("class a ^z{}");
        at("^classa{}");
        at("^cl ass a{}");
        inBody("ifp^{}");
        inBody("returp^;");
        inBody("^returnp;");
        inBody("newa=newa;");
        inBody("p=newa ^a;");
        at("class   a  {  def  m ( p , q )  {  p  =  (  a )  q  ;  p . f = q ; p . m ( p , q ) ; }  field f ; }  ");
        at("class a{}class b :  ^c  {}");
    }

    /** "a WORD of more than 6 letters, can not stand anywhere": 6 and 7 letters at each place. */
    private static void longWords() {
        for (String place : NAME_PLACES) {
            at(place.replace("^", "").replace("%", "zzzzzz"));
            String first = place.substring(0, place.indexOf('%'));
            at(first.contains("^") ? place.replace("%", "zzzzzzz") : "class ^zzzzzzz{}");
        }
        for (String place : VAR_PLACES) {
            inBody(place.replace("^", "").replace("%", "zzzzzz"));
            inBody(place.replace("%", "zzzzzzz"));
        }
        at("class a{^fieldss f;}");
        at("class a{^defdefd m(){}}");
        inBody("^returns p;");
        inBody("p=^nullnul;");
        inBody("if p{}^elseels{}");
    }

    /** "The words class field def new null if else while return this are no NAMES". */
    private static void wordsThatAreNoNames() {
        for (String word : WORDS) {
            for (String place : NAME_PLACES) {
                String first = place.substring(0, place.indexOf('%'));
                at(first.contains("^") ? place.replace("%", word) : "class ^" + word + "{}");
            }
            for (String place : VAR_PLACES) {
                if (!word.equals("this") && !(place.startsWith("^") && startsStatement(word))
                    && !(place.contains("{^") && startsStatement(word)) && !(place.startsWith("p=") && isRight(word))) {
                    inBody(place.replace("%", word));
                }
            }
            if (!startsStatement(word) && !word.equals("this")) {
                inBody("^" + word + "=p;");
            }
        }
        inBody("this^=p;");
        inBody("if ^=p;");
        inBody("while ^=p;");
        inBody("return ^=p;");
        inBody("p=new ^;");
        inBody("p=null^(p);");
    }

    private static boolean startsStatement(String word) {
        return Set.of("if", "while", "return").contains(word);
    }

    private static boolean isRight(String word) {
        return Set.of("new", "null").contains(word);
    }

    /** "all others are"; "A VAR is a NAME or this". */
    private static void wordsThatAreNames() {
        for (String word : new String[] {"clas", "classa", "fiel", "fields", "de", "defs", "ne", "news", "nul", "nulls", "i",
            "ifs", "els", "elses", "whil", "whiles", "retur", "thi", "thiss", "go", "a", "z", "zzzzzz"}) {
            for (String place : NAME_PLACES) {
                at(place.replace("^", "").replace("%", word));
            }
            for (String place : VAR_PLACES) {
                inBody(place.replace("^", "").replace("%", word));
            }
            inBody(word + "=p;");
        }
        for (String place : VAR_PLACES) {
            inBody(place.replace("^", "").replace("%", "this"));
        }
    }

    /** "[ ] one or none, < > any number": none, one, and one more than there may be. */
    private static void oneOrNone() {
        at("class a{}class b{}");
        at("class a{}class b:a{}");
        at("class a{}class b:a^:a{}");
        at("class a{}class b:a^,a{}");
        at("class a{field f;}");
        at("class a{field f;field g;def m(){}field h;}");
        at("class a{field f^,g;}");
        for (String end : new String[] {"^{}", "){}"}) {
            at("class a{def m(" + end + "}");
            at("class a{def m(p" + end + "}");
            at("class a{def m(p,q" + end + "}");
        }
        at("class a{def m(p,q^,r){}}");
        at("class a{def m(p,^){}}");
        inBody("");
        inBody("p=p;");
        for (String call : new String[] {"p.m(", "p=p.m("}) {
            inBody(call + ");");
            inBody(call + "p);");
            inBody(call + "p,p);");
            inBody(call + "p,p^,p);");
            inBody(call + "p,^);");
            inBody(call + "^,p);");
        }
        inBody("if p{}");
        inBody("if p{}else{}");
        inBody("if p{}else{}^else{}");
        inBody("while p{}");
        inBody("while p{}^else{}");
    }

    /** "PROGRAM: CLASS <CLASS> and nothing more". */
    private static void nothingMore() {
        for (String word : WORDS) {
            at("class a{}" + (word.equals("class") ? "class^" : "^" + word));
        }
        for (char sign : SIGNS.toCharArray()) {
            at("class a{}^" + sign);
            at("^" + sign + "class a{}");
        }
        at("class a{}^a");
        at("class a{}class b{} ^b");
        at("class a{} ");
    }

    /** "where one lacks, behind the last one's end": a text that stops behind each of its tokens. */
    private static void lackingTokens() {
        String[] tokens = ("class a { field f ; def m ( p , q ) { if p { while q { } } else { } return p ; p . f = q ; p . m ( p , q ) ; "
            + "x = new a ; x = null ; x = ( a ) p ; x = p ; x = p . f ; x = p . m ( ) ; } } class b : a { ").split(" ");
        StringBuilder text = new StringBuilder();
        for (int i = 0; i < tokens.length; i++) {
            boolean parted = i > 0 && Character.isLetter(tokens[i].charAt(0)) && Character.isLetter(tokens[i - 1].charAt(0));
            text.append(parted ? " " : "").append(tokens[i]);
            boolean whole = tokens[i].equals("}") && i + 1 < tokens.length && tokens[i + 1].equals("class");
            at(text + (whole ? "" : "^"));
            at(text + (whole ? "" : "^") + "   ");
        }
        at(text + "}");
    }

    /** "0 in an empty text". */
    private static void emptyTexts() {
        at("^");
        at("^ ");
        at("^" + " ".repeat(319));
        at(" ^a");
        at(" class^");
    }

    private static String classes(int count) {
        return Check.lettered("class %{}", count);
    }

    /** "CLASSES (at most 6)"; "one too many: the NAME". */
    private static void classes() {
        full(classes(6), 0, 6);
        at(classes(6) + "class ^g{}");
        at(classes(6) + "class ^g:a{}");
        at(classes(6) + "class ^g");
        at(classes(6) + "class^");
        at(classes(6) + "class ^this{}");
    }

    /** "METHODS (10)". */
    private static void methods() {
        String ten = Check.lettered("def %(){}", 10);
        full("class a{" + ten + "}", 1, 10);
        full("class a{" + Check.lettered("def %(){}", 9) + "}class b:a{def a(){}}", 1, 10);
        at("class a{" + ten + "def ^k(){}}");
        at("class a{" + ten + "}class b{def ^a(){}}");
        at("class a{" + ten + "def ^k");
        at("class a{" + ten + "def^");
    }

    /** "FIELD NAMES, by the first declaration of each (8)". */
    private static void fieldNames() {
        String eight = Check.lettered("field %;", 8);
        full("class a{" + eight + "}", 2, 8);
        full("class a{" + eight + "}class b{" + eight + "}", 2, 8);
        full("class a{" + Check.lettered("field %;", 7) + "}class b{field a;field h;}class c{field h;}", 2, 8);
        at("class a{" + eight + "field ^i;}");
        at("class a{" + eight + "}class b{field h;field ^i;}");
        at("class a{" + eight + "field ^i");
        // A name that no class declares is no field name.
        full("class a{" + eight + "def m(){m=m.x;m.y=m;m=m.z;}}", 2, 8);
    }

    /** "CALLS (12), by their NAMES". */
    private static void calls() {
        String twelve = "class a{def m(x){" + "x.m(x);x=x.n();".repeat(6);
        full(twelve + "}}", 3, 12);
        full(twelve + "x=x.m;x.m=x;}}", 3, 12);
        for (String last : new String[] {"x.^m();", "x=x.^m();", "this.^o(x,x);", "x.^m(", "x.^m(;", "x=x.^m({", "x . ^m (",
            "if x{x.^m();}", "if x{}else{x=x.^m(", "while x{while x{if x{this.^m(x", "x=new b;x.^m();"}) {
            at(twelve + last + "}}");
        }
        at(twelve + "x.m^}}");
        at(twelve + "x=x.m^}}");
        at(twelve + "}def n(x){x.^m();}}");
    }

    /** "CASTS (8), by their brackets". */
    private static void casts() {
        String eight = "class a{def m(){" + "x=(a)x;".repeat(8);
        full(eight + "}}", 4, 8);
        full(eight + "x.m();x=x.m(x);}}", 4, 8);
        for (String last : new String[] {"x=^(a)x;", "x=^(", "x=^();", "if x{x=^(a)this;}", "x = ^( a ) x ;"}) {
            at(eight + last + "}}");
        }
        at(eight + "x^(a)x;}}");
        at(eight + "}def n(){x=^(a)x;}}");
    }

    /** "SITES (12): site 0 is the START's, then each new"; "the word new". */
    private static void sites() {
        String eleven = "class a{def m(){" + "x=new a;".repeat(11);
        full(eleven + "}}", 5, 12);
        for (String last : new String[] {"x=^new a;", "x=^new ", "x=^new this;", "if x{}else{x=^new a;}"}) {
            at(eleven + last + "}}");
        }
        at(eleven + "}def n(){x=^new a;}}");
        at(eleven + "^new a;}}");
        full("class a{}", 5, 1);
    }

    /** A text whose last method is still open and has a parameter p; x, y and z are no variables yet. */
    private static String withVariables(int count) {
        return "class a{def m(){" + Check.copies(NAMES) + "}def n(p){" + Check.copies(NAMES.substring(0, count - NAMES.length() - 5));
    }

    /** "VARIABLES (48) ... other NAMES where they first stand as a VAR or before = in it". */
    private static void variables() {
        full(withVariables(48) + "}}", 6, 48);
        for (String place : VAR_PLACES) {
            full(withVariables(48) + place.replace("^", "").replace("%", "p") + "}}", 6, 48);
            full(withVariables(48) + place.replace("^", "").replace("%", "this") + "}}", 6, 48);
            full(withVariables(47) + place.replace("^", "").replace("%", "z") + "}}", 6, 48);
            at(withVariables(48) + place.replace("%", "z") + "}}");
        }
        for (String right : new String[] {"p", "null", "new a", "(a)p", "p.f", "p.m()"}) {
            full(withVariables(47) + "z=" + right + ";}}", 6, 48);
            at(withVariables(48) + "^z=" + right + ";}}");
        }
        at(withVariables(47) + "z=^y;}}");
        at(withVariables(47) + "z.m(z,^y);}}");
        at(withVariables(46) + "z.m(y,^x);}}");
        // Names of fields, methods and classes are no variables.
        full(withVariables(48) + "p.z=p;p.y();p=p.x;p=p.w(p);}}", 6, 48);
    }

    /** "of a method, at its NAME, its RESULT and its this, then its parameters". */
    private static void resultAndThis() {
        full(withVariables(46) + "}def o(){}}", 6, 48);
        at(withVariables(47) + "}def ^o(){}}");
        at(withVariables(48) + "}def ^o(){}}");
        at(withVariables(47) + "}}class b{def ^m(){}}");
        full(withVariables(45) + "}def o(x){}}", 6, 48);
        at(withVariables(46) + "}def o(^x){}}");
        full(withVariables(44) + "}def o(x,y){}}", 6, 48);
        at(withVariables(45) + "}def o(x,^y){}}");
        at(withVariables(46) + "}def o(){^x=this;}}");
        full(withVariables(46) + "}def o(){return this;}}", 6, 48);
    }

    /** "At most 40 STATEMENTS"; "the first token of a STATEMENT". */
    private static void statements() {
        String forty = "class a{def m(x){" + "x=x;".repeat(40);
        at(forty + "}}");
        at(forty + "}def n(){}}");
        for (String last : new String[] {"if x{}", "while x{}", "return x;", "x.f=x;", "x.m();", "x=new a;", "x=null;", "x=(a)x;",
            "x=x;", "x=x.f;", "x=x.m();", "this.f=x;", "this.m();"}) {
            at("class a{def m(x){" + "x=x;".repeat(39) + last + "}}");
            at(forty + "^" + last + "}}");
            at(forty + "}def n(x){^" + last + "}}");
            at("class a{def m(x){" + "x=x;".repeat(39) + "if x{^" + last + "}}}");
            at("class a{def m(x){" + "x=x;".repeat(38) + "if x{}else{x=x;^" + last + "}}}");
            at("class a{def m(x){" + "x=x;".repeat(38) + "while x{x=x;}^" + last + "}}");
        }
        at(forty + "^z=z;}}");
        at(forty + "^;}}");
        at(forty + "^");
    }

    /** "the BODIES of STATEMENTS stand at most 3 deep in one another (that of a method does not count)"; "the { of a BODY". */
    private static void nesting() {
        String[] heads = {"if p{", "while p{", "if p{}else{"};
        for (String first : heads) {
            for (String second : heads) {
                for (String third : heads) {
                    inBody(first + second + third + "p=p;}}}");
                    inBody(first + second + third + "if p^{}}}}");
                    inBody(first + second + third + "while p^{}}}}");
                    inBody(first + second + third + "if p^;}}}");
                    inBody(first + second + "}" + third + "}}" + first + "}");
                }
            }
        }
        inBody("if p{if p{if p{}else{}}else{if p{}else{}}}else{while p{while p{}}}");
        inBody("if p{if p{if p{}else{if p^{}}}}");
        inBody("if p{}".repeat(20));
    }

    /** "a class's NAME that an earlier class has" and the names that follow it in that sentence. */
    private static void repeatedNames() {
        at("class a{}class ^a{}");
        at("class a{}class b{}class ^b:a{}");
        at("class a{}class aa{}class b:aa{}class ab:a{}");
        at("class a:^a{}");
        at("class a{}class b:^b{}");
        at("class a{}class b:^c{}class c{}");
        at("class a{}class b:a{}class c:b{}class d:a{}");
        at("class a{field f;field ^f;}");
        at("class a{field f;}class b:a{field ^f;}");
        at("class a{field f;}class b:a{}class c:b{}class d:c{}class e:d{}class g:e{field ^f;}");
        at("class a{field f;}class b{field f;}class c:a{field g;}class d:b{field g;field ^f;}");
        at("class a{}class b:a{field f;}class c:a{field f;}");
        at("class a{def m(){}def ^m(){}}");
        at("class a{def m(){}def ^m(p,q){}}");
        at("class a{def m(){}}class b:a{def m(p){}def mm(){}}class c{def m(){}}");
        at("class a{def m(p,^p){}}");
        at("class a{def m(p,pp){}def n(p,m){}}");
        at("class a{field a;def a(a){}}");
    }

    /** "THE FAULT is at the first token". */
    private static void firstOfTwoFaults() {
        at("class a{}class ^a{field f;field f;}+");
        at("class a{def m(p,^p){new}}");
        at("class a{def m(p){p=^;p=~;}}");
        at("class a{field f;field ^f}");
        at("class a{}class ^a");
        at("class a{}class b:^c:");
        at(withVariables(48) + "^z.m(y,x);+}}");
        at(classes(6) + "class ^a:g{}");
        at("class a{def m(x){" + "x.m(x);x=x.n();".repeat(6) + "x=new ^;x.m();}}");
        at("class a{def m(x){" + "x=(a)x;".repeat(8) + "x=^(b)x;x=x;;}}");
    }

    /** "If there is none of these: at the first NAME behind new, or of a CAST, that no class has." */
    private static void unknownClasses() {
        inBody("p=new ^b;p=(c)p;");
        inBody("p=(^b)p;p=new c;");
        inBody("p=new a;p=(a)p;if p{p=new ^c;}else{p=(d)p;}");
        inBody("p=new b;p=(b)p;^;");
        inBody("p=new b;p.m(^;");
        at("class a{def m(){x=new b;x=(c)x;}}class b:a{def m(){x=new ^aa;}}class c{}");
        at("class a{def m(){x=new d;}}class b:^d{}class d{}");
        at("class a{def m(){x=new d;}}class b{}class ^b{}");
        at("class a{def m(){x=new d;}^");
        at("class a{def m(){x=new ^d;}}  ");
        at("class a{def m(){" + "x=new z;".repeat(11) + "x=^new a;}}");
    }

    /** Promise 4: "IllegalArgumentException: a fault; the PROGRAM stays", and SEEN with it. */
    private static void refusedRead() {
        for (String bad : new String[] {"", "   ", "class", "class b{}class b{}", "class b{def go(){x=new c;}}", "class b{}}",
            classes(6) + "class g{}", "class b{field g;def k(p,q){q.g=p;}def go(){this.k(this,", "class b{def go(){}def go(){}}"}) {
            PointsTo x = Check.reader("class a{field f;def go(){x=new b;this.f=x;y=this.m(x);x=(a)x;}def m(p){return p;}}class b:a{}");
            CHECK.due("run", x::run, 5);
            String before = State.program(x) + State.lastRun(x);
            Check.replace(x, bad);
            CHECK.thrown("read of " + bad, x::read, IllegalArgumentException.class);
            CHECK.same("the program stays behind " + bad, State.program(x) + State.lastRun(x), before);
            CHECK.due("the text stays", () -> x.count(9), bad.length());
            CHECK.due("the program runs behind " + bad, x::run, 5);
            CHECK.same("as it did before " + bad, State.program(x) + State.lastRun(x), before);
        }
        PointsTo y = Check.reader("class a{def go(){");
        CHECK.same("no program comes of a fault", State.program(y), State.program(new PointsTo()));
        CHECK.thrown("nor runs", y::run, java.util.NoSuchElementException.class);
        Check.append(y, "}}");
        CHECK.due("the text goes on", y::read, 1);
    }

    /** Promise 5: "of the last read, -1 if it had none, or before the first one". */
    private static void faultOfTheLastRead() {
        PointsTo x = new PointsTo();
        CHECK.due("before the first", x::fault, -1);
        Check.append(x, "class a{");
        CHECK.due("still before the first", x::fault, -1);
        Check.told(x::read);
        CHECK.due("behind the first", x::fault, 8);
        Check.append(x, "}z");
        CHECK.due("append leaves it", x::fault, 8);
        Check.told(x::read);
        CHECK.due("behind the second", x::fault, 9);
        x.cut(1);
        CHECK.due("cut leaves it", x::fault, 9);
        Check.told(x::run);
        CHECK.due("run leaves it", x::fault, 9);
        CHECK.due("the third", x::read, 0);
        CHECK.due("behind the third", x::fault, -1);
        x.cut(9);
        Check.told(x::read);
        CHECK.due("of an empty text", x::fault, 0);
    }

    /** "it becomes the PROGRAM, is analysed, and nothing is SEEN": as if it were the first. */
    private static void readAgain() {
        String[] texts = {
            "class a{}",
            "class a{def go(p){x=new a;}}",
            "class a{def go(){}}",
            "class c{field f;field g;def go(){x=this;x.f=x;y=x.g;return x;}}",
            "class c{def go(){this.m();}def m(){x=new d;x.f=x;}}class d{}class e{field f;}",
            "class c{def m(p,q){x=(d)p;return q;}def go(){y=new d;y=this.m(y,this);y=(c)y;}}class d:c{}",
            "class d{def go(){x=this;y=this;if y{z=x;}else{while z{z=null;}}this.k(x,z);}def k(y,x){}}",
            "class d{def go(){x=this.k(x,this);x=this.k(this,x);}def k(y,x){return y;}}",
            "class d{def go(){this.go();x=this.go(x);y=(d)x;y=new d;}}",
            "class a{def m(){x=null;y=null;}def go(){y=x;x=this;this.m();}}",
            "class x{def y(){}def x(){}def go(){x=y;y=this;}}"};
        for (String first : texts) {
            for (String second : texts) {
                PointsTo x = Check.reader(first);
                Check.told(x::run);
                // Twice, so that what the second text is read into has held the first one.
                Check.told(x::read);
                Check.replace(x, second);
                PointsTo fresh = Check.reader(second);
                CHECK.same("read of " + second, Check.told(x::read), Check.told(fresh::read));
                CHECK.same(second + " behind " + first, State.program(x), State.program(fresh));
                CHECK.same("nothing is seen behind " + first, State.seen(x), State.seen(fresh));
                CHECK.same("run of " + second, Check.told(x::run), Check.told(fresh::run));
                CHECK.same("what it has seen behind " + first, State.seen(x), State.seen(fresh));
            }
        }
    }
}
