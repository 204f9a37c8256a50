import java.util.NoSuchElementException;

/** Promises 4, 6 to 12 and 15: what the analysis finds out, and in which round. */
public final class AnalysisTest {
    private static final Check CHECK = new Check("AnalysisTest");

    public static void main(String[] args) {
        numbering();
        start();
        copies();
        casts();
        fields();
        calls();
        foundMethods();
        resultsAndParameters();
        unreached();
        wrongNumbers();
        CHECK.end();
    }

    private static void numbering() {
        PointsTo x = Check.reader("class a{field g;def go(p,q){if r{s=t;}return this;}field f;}"
            + "class b:a{field h;def m(o){o.zz=q;q.y();o=(a)n;}}"
            + "class c{field f;def go(){u=new b;u=(c)v;w=u.k(w);}}");
        int[] counts = {3, 3, 3, 2, 2, 2, 17};
        for (int what = 0; what < counts.length; what++) {
            int asked = what;
            CHECK.due("count " + what, () -> x.count(asked), counts[asked]);
        }
        int[][] methods = {{0, 1, 2, 3, 0}, {7, 8, 9, -1, 1}, {12, 13, -1, -1, 2}};
        for (int m = 0; m < methods.length; m++) {
            for (int what = 0; what < 5; what++) {
                int method = m;
                int asked = what;
                CHECK.due("method " + m + " " + what, () -> x.method(method, asked), methods[m][what]);
            }
        }
    }

    private static void start() {
        PointsTo x = Check.reader("class a{def go(){}}");
        CHECK.due("this of the start", () -> x.may(1, 0), 0);
        CHECK.due("result of the start", () -> x.may(0, 0), -1);
        CHECK.due("the start is reached", () -> x.reached(0), 0);
        CHECK.due("rounds", () -> x.count(7), 0);
        PointsTo y = Check.reader("class a{def go(p){x=new a;}}class b{def go(){x=new a;}}");
        CHECK.due("no start with a parameter, nor in another class", () -> y.reached(0), -1);
        CHECK.due("nor there", () -> y.reached(1), -1);
        CHECK.due("rounds without facts", () -> y.count(7), 0);
        CHECK.due("read without facts", y::read, 0);
        CHECK.thrown("run without a start", y::run, NoSuchElementException.class);
    }

    private static void copies() {
        PointsTo x = Check.reader("class a{def go(){d=c;c=b;b=a;a=new a;a=null;if d{e=this;}else{while e{return e;f=e;}}}}");
        int[] rounds = {1, 2, 3, 4};
        int[] order = {5, 4, 3, 2};
        for (int i = 0; i < 4; i++) {
            int at = i;
            CHECK.due("copy " + i, () -> x.may(order[at], 1), rounds[at]);
        }
        CHECK.due("in a first body", () -> x.may(6, 0), 1);
        CHECK.due("behind a return", () -> x.may(7, 0), 2);
        CHECK.due("the result", () -> x.may(0, 0), 2);
        CHECK.due("rounds", () -> x.count(7), 4);
        CHECK.due("pairs", x::read, 8);
        CHECK.due("alias", () -> x.alias(2, 5), 1);
        CHECK.due("alias of this and e", () -> x.alias(1, 6), 1);
        CHECK.due("no alias", () -> x.alias(1, 2), 0);
        CHECK.due("alias of itself", () -> x.alias(1, 1), 1);
    }

    private static void casts() {
        PointsTo x = Check.reader("class a{def go(){x=new a;x=new b;x=new c;x=new d;p=(a)x;q=(b)x;r=(c)x;s=(d)x;t=(b)n;u=(c)r;}}"
            + "class b:a{}class c:b{}class d:a{}");
        int[][] kept = {{1, 2, 3, 4}, {2, 3}, {3}, {4}};
        for (int v = 0; v < 4; v++) {
            for (int site = 0; site <= 4; site++) {
                int variable = 3 + v;
                int asked = site;
                boolean holds = false;
                for (int k : kept[v]) {
                    holds |= k == site;
                }
                CHECK.due("cast " + v + " keeps " + site, () -> x.may(variable, asked), holds ? 2 : -1);
            }
        }
        int[] safe = {1, 0, 0, 0, 1, 1};
        for (int c = 0; c < safe.length; c++) {
            int cast = c;
            CHECK.due("safe " + c, () -> x.safe(cast), safe[c]);
        }
    }

    private static void fields() {
        PointsTo x = Check.reader("class a{field f;def go(){x=new a;y=new b;x=new c;x.f=y;x.g=y;z=x.f;w=x.g;v=x.h;x.h=y;}}"
            + "class b{field g;}class c:b{}");
        CHECK.due("holds of the class that has it", () -> x.holds(1, 0, 2), 2);
        CHECK.due("holds of a class that has it not", () -> x.holds(3, 0, 2), -1);
        CHECK.due("holds of a class below", () -> x.holds(3, 1, 2), 2);
        CHECK.due("holds of another that has it not", () -> x.holds(1, 1, 2), -1);
        CHECK.due("load", () -> x.may(4, 2), 3);
        CHECK.due("other load", () -> x.may(5, 2), 3);
        CHECK.due("load of no field", () -> x.may(6, 2), -1);
        CHECK.due("field names", () -> x.count(2), 2);
        CHECK.due("rounds", () -> x.count(7), 3);
        CHECK.thrown("no such field name", () -> x.holds(1, 2, 2), NoSuchElementException.class);
    }

    private static void calls() {
        PointsTo x = Check.reader("class a{def go(){x=new b;x=new c;y=x.m(this);x.m();n.m(y);}def m(p){return p;}}"
            + "class b:a{}class c:a{def m(q){r=q;return this;}}");
        CHECK.due("goes to the one above", () -> x.goes(0, 1), 2);
        CHECK.due("goes to its own", () -> x.goes(0, 2), 2);
        CHECK.due("does not go to the start", () -> x.goes(0, 0), -1);
        CHECK.due("other number of parameters", () -> x.goes(1, 1), -1);
        CHECK.due("nor there", () -> x.goes(1, 2), -1);
        CHECK.due("a call of nothing", () -> x.goes(2, 1), -1);
        CHECK.due("reached", () -> x.reached(1), 2);
        CHECK.due("reached too", () -> x.reached(2), 2);
        CHECK.due("this of m of a", () -> x.may(x.method(1, 1), 1), 2);
        CHECK.due("this of m of a is no c", () -> x.may(x.method(1, 1), 2), -1);
        CHECK.due("this of m of c", () -> x.may(x.method(2, 1), 2), 2);
        CHECK.due("parameter", () -> x.may(x.method(1, 2), 0), 3);
        CHECK.due("parameter of the other", () -> x.may(x.method(2, 2), 0), 3);
        CHECK.due("result by the parameter", () -> x.may(x.method(1, 0), 0), 4);
        CHECK.due("result by this", () -> x.may(x.method(2, 0), 2), 3);
        CHECK.due("the variable before =", () -> x.may(3, 0), 5);
        CHECK.due("and of the other", () -> x.may(3, 2), 4);
        CHECK.due("rounds", () -> x.count(7), 5);
    }

    private static void foundMethods() {
        PointsTo x = Check.reader("class a{def go(){x=new c;x.m();x.m(x);x.n();}def m(p){}def n(){}}"
            + "class b:a{def m(){}}class c:b{}");
        CHECK.due("m() is found above", () -> x.goes(0, 3), 2);
        CHECK.due("m(p) is hidden by m()", () -> x.goes(1, 1), -1);
        CHECK.due("and m() has too few", () -> x.goes(1, 3), -1);
        CHECK.due("n() is found two above", () -> x.goes(2, 2), 2);
        CHECK.due("m(p) is not reached", () -> x.reached(1), -1);
    }

    private static void resultsAndParameters() {
        PointsTo x = Check.reader("class a{def go(){x=new a;y=new a;z=this.m(x,y);}def m(p,q){p=q;return p;return n;}}");
        CHECK.due("first", () -> x.may(7, 1), 2);
        CHECK.due("second", () -> x.may(8, 2), 2);
        CHECK.due("second is not the first's", () -> x.may(8, 1), -1);
        CHECK.due("first by the copy", () -> x.may(7, 2), 3);
        CHECK.due("result", () -> x.may(5, 1), 3);
        CHECK.due("result by the copy", () -> x.may(5, 2), 4);
        CHECK.due("back", () -> x.may(4, 1), 4);
        CHECK.due("back by the copy", () -> x.may(4, 2), 5);
        CHECK.due("no null", () -> x.may(9, 1), -1);
    }

    private static void unreached() {
        PointsTo x = Check.reader("class a{def go(){}def m(){x=new b;y=(a)x;x.m();}}class b{}");
        CHECK.due("no facts but the start's", x::read, 1);
        CHECK.due("not reached", () -> x.reached(1), -1);
        CHECK.due("its cast is safe", () -> x.safe(0), 1);
        CHECK.due("no alias", () -> x.alias(4, 4), 0);
        CHECK.due("its call goes nowhere", () -> x.goes(0, 1), -1);
    }

    private static void wrongNumbers() {
        PointsTo x = Check.reader("class a{field f;def go(){x=(a)this;x.go();x=new a;}}");
        Class<NoSuchElementException> none = NoSuchElementException.class;
        for (int wrong : new int[] {-1, 3, 48, Integer.MIN_VALUE, Integer.MAX_VALUE}) {
            CHECK.thrown("may of variable " + wrong, () -> x.may(wrong, 0), none);
            CHECK.thrown("may of site " + wrong, () -> x.may(0, wrong), none);
            CHECK.thrown("seen of variable " + wrong, () -> x.seen(wrong, 0), none);
            CHECK.thrown("seen of site " + wrong, () -> x.seen(0, wrong), none);
            CHECK.thrown("holds of site " + wrong, () -> x.holds(wrong, 0, 0), none);
            CHECK.thrown("holds of field " + wrong, () -> x.holds(0, wrong, 0), none);
            CHECK.thrown("holds of target " + wrong, () -> x.holds(0, 0, wrong), none);
            CHECK.thrown("goes of call " + wrong, () -> x.goes(wrong, 0), none);
            CHECK.thrown("goes of method " + wrong, () -> x.goes(0, wrong), none);
            CHECK.thrown("reached of " + wrong, () -> x.reached(wrong), none);
            CHECK.thrown("safe of " + wrong, () -> x.safe(wrong), none);
            CHECK.thrown("alias of first " + wrong, () -> x.alias(wrong, 0), none);
            CHECK.thrown("alias of second " + wrong, () -> x.alias(0, wrong), none);
            CHECK.thrown("method " + wrong, () -> x.method(wrong, 0), none);
            CHECK.thrown("method and what " + wrong, () -> x.method(wrong, 5), none);
        }
        CHECK.thrown("site 2", () -> x.may(0, 2), none);
        CHECK.thrown("field 1", () -> x.holds(0, 1, 0), none);
        CHECK.thrown("call 1", () -> x.goes(1, 0), none);
        CHECK.thrown("method 1", () -> x.reached(1), none);
        CHECK.thrown("cast 1", () -> x.safe(1), none);
        CHECK.thrown("what 5", () -> x.method(0, 5), IllegalArgumentException.class);
        CHECK.thrown("what -1", () -> x.method(0, -1), IllegalArgumentException.class);
        CHECK.thrown("count 10", () -> x.count(10), IllegalArgumentException.class);
        CHECK.thrown("count -1", () -> x.count(-1), IllegalArgumentException.class);
    }
}
