import java.util.NoSuchElementException;

/** Promises 13 and 14, and the objects of promise 15: what a run does and notes. */
public final class RunTest {
    private static final Check CHECK = new Check("RunTest");

    public static void main(String[] args) {
        branches();
        loops();
        frames();
        results();
        nulls();
        casts();
        lacks();
        tooManyStatements();
        tooManyObjects();
        tooDeep();
        seenOfTheLastRun();
        CHECK.end();
    }

    private static PointsTo goes(String body) {
        return CHECK.good("class a{field f;def go(){" + body + "}}class b{field g;}class c:b{}");
    }

    private static void ends(String body, int begun) {
        CHECK.due(body, goes(body)::run, begun);
    }

    private static void fails(String body, Class<? extends RuntimeException> failure) {
        CHECK.thrown(body, goes(body)::run, failure);
    }

    private static void branches() {
        ends("", 0);
        ends("x=this;", 1);
        ends("if this{x=this;}else{x=null;x=null;}", 2);
        ends("if x{x=this;}else{x=null;x=null;}", 3);
        ends("if x{x=this;}x=x;", 2);
        ends("if this{if this{if x{}else{x=this;}}x=x;}x=x;", 6);
        ends("return this;x=x;", 1);
        ends("x=x;".repeat(40), 40);
        ends("if this{" + "x=x;".repeat(39) + "}", 40);
        ends("if this{return x;}x=x;", 2);
    }

    private static void loops() {
        ends("while x{x=x;}", 1);
        ends("x=this;while x{x=null;}", 4);
        ends("x=this;while x{y=x.f;x=y;}", 5);
        ends("while this{return this;}", 2);
        ends("x=new a;y=new a;x.f=y;y.f=this;while x{x=x.f;}", 11);
        ends("x=this;while x{y=this;while y{y=null;}x=null;}", 8);
    }

    private static void frames() {
        PointsTo x = Check.reader("class a{field f;def go(){x=this.m(n);y=this.m(this);}"
            + "def m(p){if v{p.f=p;}v=this;if p{w=new b;return w;}}}class b{}");
        CHECK.due("variables are null in each new run of a method", x::run, 2 + 3 + 5);
        CHECK.due("objects", () -> x.count(8), 2);
        CHECK.due("x is null", () -> x.seen(2, 1), 0);
        CHECK.due("y is a b", () -> x.seen(4, 1), 1);
        PointsTo y = Check.reader("class a{def go(){x=new a;x.m(this,n);if x{x=null;}x=this;}def m(p,q){x=p;p=q;this.n();if x{y=x;}}"
            + "def n(){x=null;}}");
        CHECK.due("a method's variables are its own", y::run, 5 + 5 + 1);
        PointsTo z = Check.reader("class a{field f;def go(){this.f=this;this.m(this);}def m(p){n=p.f;p.f=o;if n{this.m(p);}q=p;}}");
        CHECK.due("a variable outlives the method's run within", z::run, 2 + 5 + 4);
    }

    private static void results() {
        PointsTo x = Check.reader("class a{def go(){x=new b;x=this.m(x);y=this.r(this);return y;}def m(p){}def r(p){return p;p=n;}}class b{}");
        CHECK.due("results", x::run, 5);
        CHECK.due("result of m", () -> x.seen(x.method(1, 0), 1), 0);
        CHECK.due("argument of m", () -> x.seen(x.method(1, 2), 1), 1);
        CHECK.due("this of m", () -> x.seen(x.method(1, 1), 0), 1);
        CHECK.due("result of r", () -> x.seen(x.method(2, 0), 0), 1);
        CHECK.due("y", () -> x.seen(3, 0), 1);
        CHECK.due("x is never site 0", () -> x.seen(2, 0), 0);
        CHECK.due("the start's result", () -> x.seen(0, 0), 1);
        CHECK.due("the start's this", () -> x.seen(1, 0), 1);
    }

    private static void nulls() {
        Class<NoSuchElementException> none = NoSuchElementException.class;
        fails("x=n.f;", none);
        fails("n.f=this;", none);
        fails("n.go();", none);
        fails("x=n.go();", none);
        fails("n.lacks=this;", none);
        fails("x=n.lacks;", none);
        fails("n.lacks();", none);
        fails("x=this.f;x=x.f;", none);
        ends("this.f=n;n=this;x=this.f;if x{n=null;}", 4);
    }

    private static void casts() {
        Class<UnsupportedOperationException> failure = UnsupportedOperationException.class;
        fails("x=(b)this;", failure);
        fails("x=new b;x=(c)x;", failure);
        ends("x=new c;x=(b)x;x=(c)x;", 3);
        ends("x=(b)n;if x{x=this;}", 2);
        PointsTo deep = Check.reader("class a{field f;def go(){x=new e;y=(a)x;y.f=this;y.m();z=(e)y;z=(d)z;x=(e)this;}def m(){}}"
            + "class b:a{}class c:b{}class g:c{}class d:g{}class e:d{}");
        CHECK.thrown("cast along six classes", deep::run, UnsupportedOperationException.class);
        CHECK.due("seen behind the cast to the uppermost", () -> deep.seen(3, 1), 1);
        CHECK.due("the call goes to the uppermost", () -> deep.goes(0, 1), 3);
        CHECK.due("seen behind the other casts", () -> deep.seen(4, 1), 1);
        CHECK.due("safe", () -> deep.safe(0), 1);
        CHECK.due("not safe", () -> deep.safe(3), 0);
        PointsTo x = goes("x=new b;y=(c)x;");
        CHECK.thrown("cast", x::run, failure);
        CHECK.due("seen before the failure", () -> x.seen(2, 1), 1);
        CHECK.due("not given behind it", () -> x.seen(3, 1), 0);
    }

    private static void lacks() {
        Class<IndexOutOfBoundsException> failure = IndexOutOfBoundsException.class;
        fails("x=this.g;", failure);
        fails("this.g=this;", failure);
        fails("x=this.lacks;", failure);
        fails("this.lacks=x;", failure);
        fails("x=new b;x=x.f;", failure);
        fails("x=new c;x.f=x;", failure);
        fails("this.lacks();", failure);
        fails("this.go(this);", failure);
        fails("x=new b;x.go();", failure);
        ends("x=new c;x.g=this;x=x.g;x=x.f;", 4);
    }

    private static void tooManyStatements() {
        Class<IllegalStateException> failure = IllegalStateException.class;
        fails("while this{}", failure);
        fails("while this{x=this;}", failure);
        // Nine calls of m, each of which begins two calls of n, that is 1 + 2 * (1 + 9) statements.
        String text = "class a{def go(){" + "this.m();".repeat(9) + "%}def m(){this.n();this.n();}def n(){" + "o=o;".repeat(9) + "}}";
        String fill = "x=x;".repeat(10);
        many(text, fill + "x=x;", 200);
        many(text, fill + "if x{}", 200);
        many(text, fill + "while x{}", 200);
        many(text, fill, 199);
        for (String last : new String[] {"x=x;", "if x{}", "while x{}", "this.m();", "x=n.f;", "return x;"}) {
            PointsTo x = Check.reader(text.replace("%", fill + "x=x;" + last));
            CHECK.thrown("201 statements with " + last, x::run, failure);
        }
        many(text, "x=this;while x{x=null;}" + "x=x;".repeat(7), 200);
        CHECK.thrown("the second test of a while as the 201st",
            Check.reader(text.replace("%", "x=x;".repeat(8) + "x=this;while x{x=null;}"))::run, failure);
    }

    private static void many(String text, String fill, int begun) {
        CHECK.due("many statements with " + fill, Check.reader(text.replace("%", fill))::run, begun);
    }

    private static void tooManyObjects() {
        String text = "class a{def go(){this.m();this.m();this.m();this.m();%}def m(){" + "x=new a;".repeat(7) + "}}";
        PointsTo x = Check.reader(text.replace("%", "y=new a;"));
        CHECK.due("30 objects", x::run, 33);
        CHECK.due("count 8", () -> x.count(8), 30);
        PointsTo y = Check.reader(text.replace("%", "y=new a;z=new a;"));
        CHECK.thrown("31 objects", y::run, IllegalStateException.class);
        CHECK.due("count 8 behind the failure", () -> y.count(8), 30);
        CHECK.due("the 30th", () -> y.seen(2, 1), 1);
        CHECK.due("the 31st", () -> y.seen(3, 2), 0);
    }

    private static void tooDeep() {
        String text = "class a{def go(){x=this.k(this);}def k(p){x=this.l(p);return x;}def l(p){x=this.m(p);return x;}def m(p){%return p;}"
            + "def n(p){return p;}}";
        PointsTo x = Check.reader(text.replace("%", ""));
        CHECK.due("a method within 3 others", x::run, 6);
        CHECK.due("its result comes back", () -> x.seen(2, 0), 1);
        PointsTo y = Check.reader(text.replace("%", "x=this.n(p);"));
        CHECK.thrown("a method within 4 others", y::run, IllegalStateException.class);
        CHECK.due("its argument was not given", () -> y.seen(y.method(4, 2), 0), 0);
        CHECK.due("its this was not given", () -> y.seen(y.method(4, 1), 0), 0);
        CHECK.due("the one before had its own", () -> y.seen(y.method(3, 2), 0), 1);
        fails("x=this;x.go();", IllegalStateException.class);
        PointsTo z = Check.reader(text.replace("%", "if e{x=this.n(p);}"));
        CHECK.due("and again one within 3 others", z::run, 7);
        CHECK.due("and once more", z::run, 7);
    }

    private static void seenOfTheLastRun() {
        PointsTo x = goes("x=new b;y=x;x=(c)x;");
        CHECK.due("nothing is seen before a run", () -> x.seen(1, 0), 0);
        CHECK.due("no objects before a run", () -> x.count(8), 0);
        CHECK.thrown("run", x::run, UnsupportedOperationException.class);
        CHECK.due("seen in a run that failed", () -> x.seen(3, 1), 1);
        CHECK.due("objects of a run that failed", () -> x.count(8), 2);
        CHECK.thrown("run again", x::run, UnsupportedOperationException.class);
        CHECK.due("objects are not added up", () -> x.count(8), 2);
        CHECK.thrown("seen of no variable", () -> x.seen(4, 0), NoSuchElementException.class);
        CHECK.thrown("seen of no site", () -> x.seen(0, 2), NoSuchElementException.class);
        Check.replace(x, "class a{}");
        CHECK.due("a text without a start", x::read, 0);
        CHECK.thrown("run without a start", x::run, NoSuchElementException.class);
        CHECK.due("the last run is still that of before", () -> x.count(8), 2);
        Check.replace(x, "class a{def go(){x=new a;y=this;}}");
        CHECK.due("read", x::read, 3);
        CHECK.due("nothing is seen behind a read", () -> x.seen(3, 1), 0);
        CHECK.due("run", x::run, 2);
        CHECK.due("seen", () -> x.seen(2, 1), 1);
        CHECK.due("objects of the new run", () -> x.count(8), 2);
    }
}
