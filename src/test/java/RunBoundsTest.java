import java.util.NoSuchElementException;

/** The boundary cases of promises 13 and 14, and of a run in the terms, sentence by sentence. */
public final class RunBoundsTest {
    private static final Check CHECK = new Check("RunBoundsTest");
    private static final Class<NoSuchElementException> NONE = NoSuchElementException.class;
    private static final Class<UnsupportedOperationException> CAST = UnsupportedOperationException.class;
    private static final Class<IndexOutOfBoundsException> LACKS = IndexOutOfBoundsException.class;
    private static final Class<IllegalStateException> LIMIT = IllegalStateException.class;

    public static void main(String[] args) {
        noProgram();
        noStart();
        firstObject();
        nullAtFirst();
        ifs();
        whiles();
        returns();
        fieldsOfNull();
        castsOfObjects();
        lackingFields();
        lackingMethods();
        statements();
        testsOfWhile();
        objects();
        methodsWithin();
        orderOfFailures();
        seenVariables();
        seenBeforeAFailure();
        failedRun();
        lastRun();
        CHECK.end();
    }

    private static PointsTo started(String body) {
        return CHECK.good("class a{field f;def go(){" + body + "}def m(){}def n(p){return p;}def o(p,q){return q;}}class b{field g;}class c:b{field h;}");
    }

    private static void ends(String body, int begun) {
        CHECK.due("run of " + body, started(body)::run, begun);
    }

    private static void fails(String body, Class<? extends RuntimeException> failure) {
        CHECK.thrown("run of " + body, started(body)::run, failure);
    }

    /** Promise 13: "NoSuchElementException: there is no PROGRAM". */
    private static void noProgram() {
        PointsTo x = new PointsTo();
        CHECK.refused("run of a new object", x, x::run, NONE);
        Check.append(x, "class a{def go(){}}");
        CHECK.refused("run of a text that is not read", x, x::run, NONE);
        PointsTo y = Check.reader("class a{def go(){}");
        CHECK.refused("run behind a fault", y, y::run, NONE);
        CHECK.due("no objects", () -> y.count(8), 0);
    }

    /** "or no START (then nothing changes)". */
    private static void noStart() {
        for (String text : new String[] {"class b{}", "class b{def go(p){x=new b;}}", "class b{def og(){}}class c{def go(){}}"}) {
            PointsTo x = started("x=new b;");
            CHECK.due("run", x::run, 1);
            Check.replace(x, text);
            CHECK.due("read of " + text, x::read, 0);
            CHECK.refused("run of " + text, x, x::run, NONE);
            CHECK.due("objects of the last run that was one", () -> x.count(8), 2);
        }
    }

    /** "A RUN makes an object of class 0 (of site 0), its fields null, and runs the START on it." */
    private static void firstObject() {
        PointsTo x = started("");
        CHECK.due("nothing begun", x::run, 0);
        CHECK.due("one object", () -> x.count(8), 1);
        CHECK.due("this", () -> x.seen(1, 0), 1);
        CHECK.due("the result", () -> x.seen(0, 0), 0);
        ends("x=this.f;if x{x=x;}", 2);
        ends("x=(a)this;x.f=x;x=this.f;x.m();", 4);
        fails("x=this.g;", LACKS);
    }

    /** "its fields null"; "Variables but this and parameters are null at first." */
    private static void nullAtFirst() {
        ends("if x{x=this;}", 1);
        ends("while x{x=this;}", 1);
        ends("x=new c;y=x.g;z=x.h;if y{x=x;}if z{x=x;}", 5);
        PointsTo x = CHECK.good("class a{def go(){x=this;this.m(x,y);this.m(y,x);}def m(p,q){if p{a=p;}if q{b=q;}if a{a=a;}if b{b=b;}}}");
        CHECK.due("a method's variables are null each time", x::run, 3 + 6 + 6);
        PointsTo y = CHECK.good("class a{field f;def go(){x=new a;x.f=x;x=new a;y=x.f;if y{y=y;}}}");
        CHECK.due("a second object's fields are null", y::run, 5);
        CHECK.due("in the second run too", y::run, 5);
    }

    /** "if does its first BODY if the VAR is an object, else its second one". */
    private static void ifs() {
        ends("if this{}", 1);
        ends("if x{}", 1);
        ends("if this{x=x;}else{x=x;x=x;}", 2);
        ends("if y{x=x;}else{x=x;x=x;}", 3);
        ends("if this{}else{x=x;x=x;}", 1);
        ends("if y{x=x;}else{}", 1);
        ends("if this{if y{if y{}else{x=x;}}else{if this{x=x;}else{}}}x=x;", 5);
    }

    /** "while does its BODY as long as it is". */
    private static void whiles() {
        ends("while x{}", 1);
        ends("x=this;while x{x=null;}", 4);
        ends("x=this;y=this;while x{x=y;y=null;}", 2 + 1 + 3 + 3);
        ends("while this{return this;}x=x;", 2);
        ends("while this{if this{while this{return this;}x=x;}x=x;}x=x;", 4);
        fails("while this{}", LIMIT);
    }

    /** "A method ends with return, with that value, or behind its BODY with null." */
    private static void returns() {
        ends("return this;x=x;x=x;", 1);
        ends("return x;x=x;", 1);
        ends("if this{return this;}else{}x=x;", 2);
        ends("x=this.n(this);if x{y=y;}", 4);
        ends("x=this.n(y);if x{y=y;}", 3);
        ends("x=this;x=this.m();if x{y=y;}", 3);
        ends("x=this.o(this,y);if x{y=y;}", 3);
        ends("x=this.o(y,this);if x{y=y;}", 4);
    }

    /** "a field or method of null (NoSuchElementException)". */
    private static void fieldsOfNull() {
        for (String body : new String[] {"x=n.f;", "n.f=this;", "n.f=n;", "n.m();", "x=n.m();", "x=n.zz;", "n.zz=this;", "n.zz();",
            "n.m(this);", "x=this.f;x.f=x;", "x=this.m();x.m();"}) {
            fails(body, NONE);
        }
        ends("n=this;n.f=x;x=n.f;n.m();x=n.m();", 5);
    }

    /** "an object CAST to a class that its own is not below (UnsupportedOperationException)". */
    private static void castsOfObjects() {
        fails("x=(b)this;", CAST);
        fails("x=new b;x=(c)x;", CAST);
        fails("x=new c;x=(a)x;", CAST);
        ends("x=new c;y=(c)x;y=(b)y;y=(c)y;x=(a)this;", 5);
        ends("x=(b)n;x=(a)n;x=(c)x;", 3);
    }

    /** "a field that its class has not ... (IndexOutOfBoundsException)". */
    private static void lackingFields() {
        for (String body : new String[] {"x=this.g;", "this.g=this;", "this.h=x;", "x=new b;x=x.h;", "x=new b;x.h=x;", "x=new c;x=x.f;",
            "this.zz=this;", "x=this.zz;", "x=this.m;", "this.m=this;"}) {
            fails(body, LACKS);
        }
        ends("x=new c;x.g=x;x.h=x;x=x.g;x=x.h;x=new b;x.g=x;x=x.g;this.f=x;", 9);
    }

    /** "or no method found (IndexOutOfBoundsException)". */
    private static void lackingMethods() {
        for (String body : new String[] {"this.m(x);", "this.m(x,x);", "this.n();", "this.n(x,x);", "this.o();", "this.o(x);",
            "this.zz();", "this.f();", "x=new b;x.m();", "x=new c;x.go();", "x=this.go(x);"}) {
            fails(body, LACKS);
        }
        ends("this.m();this.n(x);this.o(x,x);", 5);
        PointsTo x = CHECK.good("class a{def go(){x=new f;x.m(x);x.n();x.m();}def m(){}def n(){}}class b:a{}class c:b{def m(p){}}class d:c{}"
            + "class e:d{}class f:e{}");
        CHECK.thrown("one that a class between hides", x::run, LACKS);
        CHECK.due("the one between was run", () -> x.seen(x.method(3, 2), 1), 1);
        CHECK.due("so was the one far above", () -> x.seen(x.method(2, 1), 1), 1);
    }

    /** A start that begins 196 statements of calls and their bodies, and then those of a text. */
    private static PointsTo behind196(String more) {
        return CHECK.good("class a{def go(){" + "this.m();".repeat(7) + more + "}def m(){" + "this.n();".repeat(3) + "}def n(){"
            + "o=o;".repeat(8) + "}}");
    }

    /** "the 201st STATEMENT begun ... (IllegalStateException)". */
    private static void statements() {
        CHECK.due("196 statements", behind196("")::run, 196);
        CHECK.due("199 statements", behind196("x=x;x=x;x=x;")::run, 199);
        for (String last : new String[] {"x=x;", "if x{}", "if x{x=x;}", "while x{}", "return x;", "x=new a;", "x=null;", "x=(a)this;"}) {
            CHECK.due("the 200th: " + last, behind196("x=x;x=x;x=x;" + last)::run, 200);
            CHECK.thrown("the 201st: " + last, behind196("x=x;x=x;x=x;x=x;" + last)::run, LIMIT);
        }
        CHECK.due("the 200th in a body", behind196("x=x;x=x;if this{x=x;}")::run, 200);
        CHECK.thrown("the 201st in a body", behind196("x=x;x=x;x=x;if this{x=x;}")::run, LIMIT);
        CHECK.thrown("the 201st in a method", behind196("x=x;x=x;x=x;this.n();")::run, LIMIT);
        CHECK.due("none behind a return", behind196("x=x;x=x;x=x;return x;x=x;x=x;")::run, 200);
    }

    /** "each test of a while counts as one". */
    private static void testsOfWhile() {
        CHECK.due("the second test as the 200th", behind196("x=this;while x{x=null;}")::run, 200);
        CHECK.thrown("the second test as the 201st", behind196("x=x;x=this;while x{x=null;}")::run, LIMIT);
        CHECK.thrown("a test without an end", behind196("while this{}")::run, LIMIT);
        ends("while this{if this{return x;}}", 3);
        PointsTo x = CHECK.good("class a{field f;def go(){x=new a;y=new a;x.f=y;y.f=this;while x{x=x.f;}}}");
        CHECK.due("three times, four tests", x::run, 4 + 4 + 3);
    }

    /** A start that makes 28 objects, its own among them, and then those of a text. */
    private static PointsTo behind28(String more) {
        return CHECK.good("class a{field f;def go(){this.m();this.m();this.m();" + more + "}def m(){" + "x=new a;".repeat(9) + "}}");
    }

    /** "the 31st object ... (IllegalStateException)". */
    private static void objects() {
        PointsTo x = behind28("y=new a;y=new a;y.f=this;");
        CHECK.due("30 objects", x::run, 33);
        CHECK.due("they are counted", () -> x.count(8), 30);
        CHECK.due("once more", x::run, 33);
        CHECK.due("they are counted again", () -> x.count(8), 30);
        PointsTo y = CHECK.good("class a{def go(){this.m();this.m();this.m();this.m();y=new a;z=new a;}def m(){" + "x=new a;".repeat(7) + "}}");
        CHECK.thrown("the 31st object", y::run, LIMIT);
        CHECK.due("30 were made", () -> y.count(8), 30);
        CHECK.due("the 30th was given", () -> y.seen(2, 1), 1);
        CHECK.due("the 31st was not", () -> y.seen(3, 2), 0);
        CHECK.thrown("objects without an end", CHECK.good("class a{def go(){while this{x=new a;}}}")::run, LIMIT);
    }

    /** "a method run within 4 others (IllegalStateException)". */
    private static void methodsWithin() {
        String chain = "class a{def go(){x=this.a(this);}def a(p){x=this.b(p);return x;}def b(p){x=this.c(p);return x;}def c(p){%return p;}def d(p){return p;}}";
        PointsTo x = CHECK.good(chain.replace("%", ""));
        CHECK.due("within 3 others", x::run, 6);
        CHECK.due("the value comes back", () -> x.seen(2, 0), 1);
        PointsTo y = CHECK.good(chain.replace("%", "x=this.d(p);"));
        CHECK.thrown("within 4 others", y::run, LIMIT);
        CHECK.due("the one within 3 was run", () -> y.seen(y.method(3, 2), 0), 1);
        CHECK.due("the one within 4 was not", () -> y.seen(y.method(4, 0), 0), 0);
        CHECK.due("nothing came back", () -> y.seen(2, 0), 0);
        CHECK.due("one after the other", started("this.m();".repeat(12))::run, 12);
        fails("this.go();", LIMIT);
        String ring = "class a{field f;def go(){x=new a;y=new a;x.f=y;y.f=this;%x.m();}def m(){x=this.f;if x{x.m();}}}";
        CHECK.due("itself within 3 others", CHECK.good(ring.replace("%", ""))::run, 5 + 3 + 3 + 2);
        CHECK.thrown("itself within 4 others", CHECK.good(ring.replace("%", "this.f=x;"))::run, LIMIT);
        PointsTo w = CHECK.good("class a{field f;def go(){x=new a;y=new a;x.f=y;x.m();y=new a;y.m();x.m();}def m(){x=this.f;if x{x.m();}}}");
        CHECK.due("itself within 2 others, three times", w::run, 7 + 5 + 2 + 5);
    }

    private static void orderOfFailures() {
        CHECK.thrown("the 201st statement before its null", behind196("x=x;x=x;x=x;x=x;x=n.f;")::run, LIMIT);
        CHECK.thrown("the null of the 200th statement", behind196("x=x;x=x;x=x;x=n.f;")::run, NONE);
        CHECK.thrown("the 201st statement before its cast", behind196("x=x;x=x;x=x;x=x;x=(a)this;")::run, LIMIT);
        String chain = "class a{def go(){this.a();}def a(){this.b();}def b(){this.c();}def c(){%}def d(){}}class b{}";
        CHECK.thrown("no method before one too deep", CHECK.good(chain.replace("%", "this.e();"))::run, LACKS);
        CHECK.thrown("other parameters before one too deep", CHECK.good(chain.replace("%", "this.d(x);"))::run, LACKS);
        CHECK.thrown("null before one too deep", CHECK.good(chain.replace("%", "x.d();"))::run, NONE);
        CHECK.thrown("one too deep", CHECK.good(chain.replace("%", "this.d();"))::run, LIMIT);
        CHECK.thrown("a cast within 3 others", CHECK.good(chain.replace("%", "x=(b)this;"))::run, CAST);
    }

    /** "a variable was a site's object (given to it as a value, argument, RESULT or this)". */
    private static void seenVariables() {
        PointsTo x = CHECK.good("class a{field f;def go(){x=new b;this.f=x;y=this.f;z=(b)y;w=x.m(y,this);v=w;}}class b{def m(p,q){u=q;return u;}}");
        CHECK.due("run", x::run, 8);
        int[][] seen = {{1, 0}, {2, 1}, {3, 1}, {4, 1}, {5, 0}, {6, 0}, {7, 0}, {8, 1}, {9, 1}, {10, 0}, {11, 0}};
        for (int[] pair : seen) {
            CHECK.due("seen " + pair[0], () -> x.seen(pair[0], pair[1]), 1);
            CHECK.due("seen " + pair[0] + " the other", () -> x.seen(pair[0], 1 - pair[1]), 0);
        }
        CHECK.due("the start's result was given nothing", () -> x.seen(0, 0), 0);
        PointsTo y = CHECK.good("class a{def go(){x=this;x=new a;x=null;if x{y=this;}return this;z=this;}}");
        CHECK.due("run", y::run, 5);
        CHECK.due("a value that was given up", () -> y.seen(2, 0), 1);
        CHECK.due("and the next", () -> y.seen(2, 1), 1);
        CHECK.due("what was not done", () -> y.seen(3, 0), 0);
        CHECK.due("what stands behind a return", () -> y.seen(4, 0), 0);
        CHECK.due("the result", () -> y.seen(0, 0), 1);
    }

    /** "in the last run, also one that failed". */
    private static void seenBeforeAFailure() {
        for (String failing : new String[] {"y=n.f;", "y=(b)x;", "y=x.g;", "y=x.zz();", "while x{y=y;}"}) {
            PointsTo x = started("x=this;" + failing + "x=new b;");
            Check.told(x::run);
            CHECK.due("before " + failing, () -> x.seen(2, 0), 1);
            CHECK.due("behind " + failing, () -> x.seen(2, 1), 0);
            CHECK.due("objects before " + failing, () -> x.count(8), 1);
        }
        PointsTo y = CHECK.good("class a{def go(){x=new a;x.m(this);}def m(p){q=p;q=n.f;}}");
        CHECK.thrown("a failure in a method", y::run, NONE);
        CHECK.due("its this", () -> y.seen(4, 1), 1);
        CHECK.due("its argument", () -> y.seen(5, 0), 1);
        CHECK.due("its variable", () -> y.seen(6, 0), 1);
    }

    /** "a call that throws changes nothing but what is told": a run that fails changes the last run alone. */
    private static void failedRun() {
        for (String failing : new String[] {"x=n.f;", "x=(b)this;", "x=this.g;", "this.go();", "while this{}"}) {
            PointsTo x = started("x=new c;" + failing);
            String before = State.program(x);
            String first = Check.told(x::run);
            CHECK.same("the program behind " + failing, State.program(x), before);
            CHECK.due("the fault", x::fault, -1);
            String last = State.lastRun(x);
            CHECK.same("the same failure again", Check.told(x::run), first);
            CHECK.same("the same run again", State.lastRun(x), last);
            CHECK.due("a good program behind it", () -> reread(x, "class a{def go(){x=this;}}"), 2);
            CHECK.due("runs", x::run, 1);
            CHECK.due("and makes one object", () -> x.count(8), 1);
        }
    }

    private static int reread(PointsTo x, String text) {
        Check.replace(x, text);
        return x.read();
    }

    /** Promise 15: "objects made by the last run (8)"; promise 4: "nothing is SEEN". */
    private static void lastRun() {
        PointsTo x = started("x=new b;return this;");
        CHECK.due("no run yet", () -> x.count(8), 0);
        CHECK.due("run", x::run, 2);
        CHECK.due("objects", () -> x.count(8), 2);
        CHECK.due("the result was seen", () -> x.seen(0, 0), 1);
        CHECK.due("a read", () -> reread(x, "class a{def go(){x=this;return x;}}"), 3);
        for (int v = 0; v < 3; v++) {
            int variable = v;
            CHECK.due("nothing is seen of " + v, () -> x.seen(variable, 0), 0);
        }
        CHECK.due("run", x::run, 2);
        CHECK.due("objects of the last run alone", () -> x.count(8), 1);
    }
}
