import java.util.NoSuchElementException;

/** The boundary cases of promises 6 to 12, 14 and 15, and of the analysis, sentence by sentence. */
public final class AskBoundsTest {
    private static final Check CHECK = new Check("AskBoundsTest");
    private static final Class<NoSuchElementException> NONE = NoSuchElementException.class;
    private static final Class<IllegalArgumentException> WRONG = IllegalArgumentException.class;
    private static final String SMALL = "class a{field f;def go(){x=new b;this.f=x;y=(a)x;y.m(x);}def m(p){}}class b:a{}";

    private static final int QUESTIONS = 16;

    private interface Asked {
        int answer(int number);
    }

    public static void main(String[] args) {
        variablesAndSites();
        fieldsAndSites();
        callsAndMethods();
        casts();
        partsOfAMethod();
        counts();
        refusedQuestions();
        smallerProgram();
        noStart();
        roundZero();
        site0();
        siteOfClass();
        below();
        hasFields();
        foundMethods();
        factsAtOnce();
        fieldsApart();
        resultsApart();
        lastRound();
        safeCasts();
        aliases();
        pairs();
        CHECK.end();
    }

    /** A question is answered for all numbers up to the last, and for none beside them. */
    private static void numbers(String what, int last, Asked asked) {
        for (int number : new int[] {0, last}) {
            String told = Check.told(() -> asked.answer(number));
            CHECK.same(what + " " + number + " is there", told.startsWith("throws"), false);
        }
        for (int number : new int[] {-1, last + 1, last + 2, -last - 1, 256, 65536, Integer.MIN_VALUE, Integer.MAX_VALUE}) {
            CHECK.thrown(what + " " + number, () -> asked.answer(number), NONE);
        }
    }

    /** Promises 6, 11 and 14: "no such variable or site", with 48 and 12 of them. */
    private static void variablesAndSites() {
        String twenty = Check.copies("abcdefghijklmnopqrst");
        PointsTo x = CHECK.good("class a{def go(){" + "z=new a;".repeat(11) + "this.m(z);}def m(z){" + twenty + "}def n(){" + twenty + "}}");
        CHECK.due("48 variables", () -> x.count(6), 48);
        CHECK.due("12 sites", () -> x.count(5), 12);
        numbers("may of variable", 47, n -> x.may(n, 0));
        numbers("may of site", 11, n -> x.may(0, n));
        numbers("seen of variable", 47, n -> x.seen(n, 0));
        numbers("seen of site", 11, n -> x.seen(0, n));
        numbers("alias of first", 47, n -> x.alias(n, 0));
        numbers("alias of second", 47, n -> x.alias(0, n));
        CHECK.due("the last site", () -> x.may(2, 11), 1);
        CHECK.due("the last site as an argument", () -> x.may(5, 11), 2);
        CHECK.due("the last variable", () -> x.may(47, 11), -1);
        CHECK.due("run", x::run, 22);
        CHECK.due("the last site was seen", () -> x.seen(5, 11), 1);
        CHECK.due("the one before was not", () -> x.seen(5, 10), 0);
        numbers("may of a smaller one", 6, n -> CHECK.good(SMALL).may(n, 0));
    }

    /** Promise 7: "also no such field name", with 8 names and 12 sites. */
    private static void fieldsAndSites() {
        PointsTo x = CHECK.good("class a{" + Check.lettered("field %;", 8) + "def go(){" + "x=new a;".repeat(10) + "y=new a;y.h=y;x.a=y;this.h=x;}}");
        numbers("holds of site", 11, n -> x.holds(n, 0, 0));
        numbers("holds of field", 7, n -> x.holds(0, n, 0));
        numbers("holds of target", 11, n -> x.holds(0, 0, n));
        CHECK.due("the last of all", () -> x.holds(11, 7, 11), 2);
        CHECK.due("the last field of the site before", () -> x.holds(10, 7, 11), -1);
        CHECK.due("the first field of the last site", () -> x.holds(11, 0, 11), -1);
        CHECK.due("the first field of the site before", () -> x.holds(10, 0, 11), 2);
        CHECK.due("the last field of site 0", () -> x.holds(0, 7, 1), 2);
        CHECK.due("the first field of site 1", () -> x.holds(1, 0, 1), -1);
        CHECK.thrown("holds without a field name", () -> CHECK.good("class a{def go(){}}").holds(0, 0, 0), NONE);
    }

    /** Promises 8 and 9: "no PROGRAM, call or method", with 12 and 10 of them. */
    private static void callsAndMethods() {
        PointsTo x = CHECK.good("class a{def go(){" + "this.a();".repeat(11) + "this.i();}" + Check.lettered("def %(){}", 9) + "}");
        CHECK.due("10 methods", () -> x.count(1), 10);
        numbers("goes of call", 11, n -> x.goes(n, 0));
        numbers("goes of method", 9, n -> x.goes(0, n));
        numbers("reached", 9, x::reached);
        numbers("method", 9, n -> x.method(n, 0));
        CHECK.due("the last call goes to the last method", () -> x.goes(11, 9), 1);
        CHECK.due("the call before does not", () -> x.goes(10, 9), -1);
        CHECK.due("the last method is reached", () -> x.reached(9), 1);
        CHECK.due("the one before is not", () -> x.reached(8), -1);
        CHECK.thrown("goes without a call", () -> CHECK.good("class a{def go(){}}").goes(0, 0), NONE);
        PointsTo y = CHECK.good("class a{}");
        CHECK.thrown("reached without a method", () -> y.reached(0), NONE);
        CHECK.thrown("method without a method", () -> y.method(0, 0), NONE);
        CHECK.thrown("may without a variable", () -> y.may(0, 0), NONE);
        CHECK.thrown("seen without a variable", () -> y.seen(0, 0), NONE);
        CHECK.thrown("alias without a variable", () -> y.alias(0, 0), NONE);
    }

    /** Promise 10: "no PROGRAM or cast", with 8 of them. */
    private static void casts() {
        PointsTo x = CHECK.good("class a{def go(){" + "x=(a)this;".repeat(7) + "y=(b)this;}}class b{}");
        numbers("safe", 7, x::safe);
        CHECK.due("the last cast", () -> x.safe(7), 0);
        CHECK.due("the cast before", () -> x.safe(6), 1);
        CHECK.thrown("safe without a cast", () -> CHECK.good("class a{def go(){}}").safe(0), NONE);
    }

    /** Promise 12: "-1 without one"; "IllegalArgumentException: another what". */
    private static void partsOfAMethod() {
        PointsTo x = CHECK.good("class a{def k(){}def m(p){x=p;}}class b{def k(p,q){}}class c{}class d{}class e{}class f{def go(){}}");
        int[][] parts = {{0, 1, -1, -1, 0}, {2, 3, 4, -1, 0}, {6, 7, 8, 9, 1}, {10, 11, -1, -1, 5}};
        for (int m = 0; m < parts.length; m++) {
            for (int w = 0; w < 5; w++) {
                int method = m;
                int what = w;
                CHECK.due("method " + m + " " + w, () -> x.method(method, what), parts[m][w]);
            }
        }
        for (int what : new int[] {-1, 5, 6, 256, Integer.MIN_VALUE, Integer.MAX_VALUE}) {
            CHECK.thrown("what " + what, () -> x.method(3, what), WRONG);
            CHECK.thrown("a wrong method and what " + what, () -> x.method(4, what), NONE);
            CHECK.thrown("a negative method and what " + what, () -> x.method(-1, what), NONE);
        }
    }

    /** Promise 15: "IllegalArgumentException: another number"; "0 without one". */
    private static void counts() {
        PointsTo x = CHECK.good(SMALL);
        x.run();
        int[] due = {2, 2, 1, 1, 1, 2, 7, 4, 2, SMALL.length()};
        for (int w = 0; w < due.length; w++) {
            int what = w;
            CHECK.due("count " + w, () -> x.count(what), due[w]);
            CHECK.due("count " + w + " without a program", () -> new PointsTo().count(what), 0);
        }
        for (int what : new int[] {-1, 10, 11, 256, Integer.MIN_VALUE, Integer.MAX_VALUE}) {
            CHECK.refused("count " + what, x, () -> x.count(what), WRONG);
            CHECK.thrown("count " + what + " without a program", () -> new PointsTo().count(what), WRONG);
        }
        PointsTo y = Check.reader("class a{");
        CHECK.due("characters without a program", () -> y.count(9), 8);
        CHECK.due("classes behind a fault", () -> y.count(0), 0);
        CHECK.due("sites behind a fault", () -> y.count(5), 0);
    }

    /** "a call that throws changes nothing but what is told". */
    private static void refusedQuestions() {
        for (int i = 0; i < QUESTIONS; i++) {
            PointsTo x = CHECK.good(SMALL);
            x.run();
            CHECK.refused("question " + i, x, question(x, i), NONE);
        }
        PointsTo y = CHECK.good(SMALL);
        y.run();
        CHECK.refused("another what", y, () -> y.method(0, 5), WRONG);
        CHECK.due("it runs as before", y::run, 4);
    }

    /** One of the questions that SMALL has no answer to. */
    private static Check.Call question(PointsTo x, int number) {
        switch (number) {
            case 0: return () -> x.may(7, 0);
            case 1: return () -> x.may(-1, 0);
            case 2: return () -> x.may(0, 2);
            case 3: return () -> x.holds(2, 0, 0);
            case 4: return () -> x.holds(0, 1, 0);
            case 5: return () -> x.holds(0, 0, 2);
            case 6: return () -> x.goes(1, 0);
            case 7: return () -> x.goes(0, 2);
            case 8: return () -> x.reached(2);
            case 9: return () -> x.safe(1);
            case 10: return () -> x.alias(7, 0);
            case 11: return () -> x.alias(0, 7);
            case 12: return () -> x.method(2, 0);
            case 13: return () -> x.method(2, 5);
            case 14: return () -> x.seen(7, 0);
            default: return () -> x.seen(0, 2);
        }
    }

    /** What a larger program had is not there in a smaller one. */
    private static void smallerProgram() {
        PointsTo x = CHECK.good(SMALL);
        x.run();
        Check.replace(x, "class a{def go(){}}");
        CHECK.due("read", x::read, 1);
        for (int i = 0; i < QUESTIONS; i++) {
            CHECK.thrown("question " + i + " of the smaller one", question(x, i), NONE);
        }
        numbers("may of variable", 1, n -> x.may(n, 0));
        numbers("may of site", 0, n -> x.may(0, n));
        numbers("reached", 0, x::reached);
        CHECK.thrown("goes", () -> x.goes(0, 0), NONE);
        CHECK.thrown("holds", () -> x.holds(0, 0, 0), NONE);
        CHECK.thrown("safe", () -> x.safe(0), NONE);
    }

    /** "THE START is the method found for class 0 by the NAME go without parameters"; "no facts without a START". */
    private static void noStart() {
        for (String text : new String[] {"class a{field f;def go(p){x=new a;x.f=x;y=(b)x;this.go(x);}}class b:a{def go(){x=new b;}}",
            "class a{field f;def og(){x=new a;x.f=x;y=(b)this;this.og();}}class b{def go(){x=new b;}}",
            "class a{field f;def goo(){}def g(){x=new a;y=(b)x;x.g();}}class b:a{}"}) {
            PointsTo x = CHECK.good(text);
            CHECK.due("pairs of " + text, x::read, 0);
            CHECK.due("rounds of " + text, () -> x.count(7), 0);
            CHECK.same("facts of " + text, State.program(x).matches("(?s).*(may|holds|goes|reached)[ 0-9]*: \\d.*"), false);
            CHECK.due("a cast of nothing is safe in " + text, () -> x.safe(0), 1);
            CHECK.due("nothing shares a site in " + text, () -> x.alias(1, 1), 0);
        }
    }

    /** "In round 0 it is REACHED and its this may be site 0". */
    private static void roundZero() {
        PointsTo x = CHECK.good("class a{def m(){x=this;}def go(){}}class b{}");
        CHECK.due("the start is reached", () -> x.reached(1), 0);
        CHECK.due("its this", () -> x.may(x.method(1, 1), 0), 0);
        CHECK.due("the other is not reached", () -> x.reached(0), -1);
        CHECK.due("nor is its this", () -> x.may(1, 0), -1);
        CHECK.due("the last round with a fact", () -> x.count(7), 0);
        CHECK.due("one pair", x::read, 1);
        PointsTo y = CHECK.good("class a{def go(){x=new a;y=this;}}");
        CHECK.due("a fact of round 1", () -> y.may(2, 1), 1);
        CHECK.due("a fact that follows from round 0", () -> y.may(3, 0), 1);
        CHECK.due("the last round", () -> y.count(7), 1);
    }

    /** "Site 0 is of class 0", and goes wherever another site goes. */
    private static void site0() {
        PointsTo x = CHECK.good("class a{field f;def go(){this.f=this;x=this.f;y=(a)this;z=(b)this;this.m(this,x);return this;}def m(p,q){q.g=p;q.f=p;}}"
            + "class b:a{field g;}");
        CHECK.due("held by itself", () -> x.holds(0, 0, 0), 1);
        CHECK.due("loaded from itself", () -> x.may(2, 0), 2);
        CHECK.due("cast to its class", () -> x.may(3, 0), 1);
        CHECK.due("cast to one below", () -> x.may(4, 0), -1);
        CHECK.due("the call", () -> x.goes(0, 1), 1);
        CHECK.due("the first argument", () -> x.may(7, 0), 2);
        CHECK.due("the second argument", () -> x.may(8, 0), 3);
        CHECK.due("it has no g", () -> x.holds(0, 1, 0), -1);
        CHECK.due("the result", () -> x.may(0, 0), 1);
        CHECK.due("the cast to its class is safe", () -> x.safe(0), 1);
        CHECK.due("that to one below is not", () -> x.safe(1), 0);
    }

    /** "others are of the class behind new". */
    private static void siteOfClass() {
        PointsTo x = CHECK.good("class a{def go(){x=new f;x=new a;y=(f)x;z=(a)x;}}class b{}class c{}class d{}class e{}class f{}");
        CHECK.due("the last class", () -> x.may(3, 1), 2);
        CHECK.due("not of the last class", () -> x.may(3, 2), -1);
        CHECK.due("the first class", () -> x.may(4, 2), 2);
        CHECK.due("not of the first class", () -> x.may(4, 1), -1);
    }

    /** "A class is BELOW itself, the class behind its : and all that this is below." */
    private static void below() {
        PointsTo x = CHECK.good("class a{def go(){x=new f;y=(a)x;y=(f)x;y=(c)x;x=new e;y=(f)x;z=(e)x;z=(d)x;w=new a;y=(b)w;}}"
            + "class b:a{}class c:b{}class d:c{}class e:d{}class f:e{}");
        int[] safe = {1, 0, 1, 0, 1, 1, 0};
        for (int c = 0; c < safe.length; c++) {
            int cast = c;
            CHECK.due("safe " + c + " along six classes", () -> x.safe(cast), safe[c]);
        }
        PointsTo y = CHECK.good("class a{def go(){x=new c;y=(b)x;z=(a)x;}}class b:a{}class c:a{}");
        CHECK.due("one beside it", () -> y.safe(0), 0);
        CHECK.due("the one above both", () -> y.safe(1), 1);
    }

    /** "It HAS the fields of all classes that it is below." */
    private static void hasFields() {
        PointsTo x = CHECK.good("class a{field f;def go(){x=new f;x.f=x;x.g=x;x.h=x;y=new e;y.f=x;y.g=x;y.h=x;}}"
            + "class b:a{}class c:b{}class d:c{}class e:d{field g;}class f:e{field h;}");
        CHECK.due("five classes above", () -> x.holds(1, 0, 1), 2);
        CHECK.due("one above", () -> x.holds(1, 1, 1), 2);
        CHECK.due("its own", () -> x.holds(1, 2, 1), 2);
        CHECK.due("four classes above", () -> x.holds(2, 0, 1), 2);
        CHECK.due("its own too", () -> x.holds(2, 1, 1), 2);
        CHECK.due("that of one below", () -> x.holds(2, 2, 1), -1);
    }

    /** "or if it declares none by it the one found for the class behind its : , if that has as many parameters". */
    private static void foundMethods() {
        PointsTo x = CHECK.good("class a{def go(){x=new f;x.m();x.m(x);x.m(x,x);x.n(x);x.o(x,x);x.go();}def m(){}def n(p){}def o(p,q){}}"
            + "class b:a{}class c:b{def m(p){}}class d:c{}class e:d{}class f:e{}");
        int[][] goes = {{-1, -1, -1, -1, -1}, {-1, -1, -1, -1, 2}, {-1, -1, -1, -1, -1}, {-1, -1, 2, -1, -1}, {-1, -1, -1, 2, -1}, {2, -1, -1, -1, -1}};
        for (int c = 0; c < goes.length; c++) {
            for (int m = 0; m < 5; m++) {
                int call = c;
                int method = m;
                CHECK.due("call " + c + " to method " + m, () -> x.goes(call, method), goes[c][m]);
            }
        }
    }

    /** "In round k + 1 come all facts that follow from those of the rounds up to k at once". */
    private static void factsAtOnce() {
        PointsTo x = CHECK.good("class a{def go(){x=new a;y=x;z=y;y=this.m(z);}def m(p){q=p;return q;}}");
        int[] due = {1, 2, 3};
        for (int v = 0; v < 3; v++) {
            int variable = 2 + v;
            CHECK.due("copy " + v + " in the order of the text", () -> x.may(variable, 1), due[v]);
        }
        CHECK.due("goes", () -> x.goes(0, 1), 1);
        CHECK.due("reached in that round", () -> x.reached(1), 1);
        CHECK.due("and its this", () -> x.may(6, 0), 1);
        CHECK.due("parameter behind the argument", () -> x.may(7, 1), 4);
        CHECK.due("copy of the parameter", () -> x.may(8, 1), 5);
        CHECK.due("result", () -> x.may(5, 1), 6);
        CHECK.due("the first round stays", () -> x.may(3, 1), 2);
    }

    /** "v = w . f: what the field f of a site may be that w may be", and no other site's, nor another field. */
    private static void fieldsApart() {
        PointsTo x = CHECK.good("class a{field f;field g;def go(){x=new a;y=new a;x.f=x;y.f=y;y.g=this;z=x.f;z=x.g;w=y.g;v=n.f;}}");
        int[][] may = {{-1, 3, -1}, {3, -1, -1}, {-1, -1, -1}};
        for (int v = 0; v < 3; v++) {
            for (int s = 0; s < 3; s++) {
                int variable = 4 + v;
                int site = s;
                CHECK.due("load " + v + " of " + s, () -> x.may(variable, site), may[v][s]);
            }
        }
    }

    /** "the variable before = what the RESULT may be", and none where there is no =. */
    private static void resultsApart() {
        PointsTo x = CHECK.good("class a{def go(){this.m();y=this.n(this);z=this.n(w);}def m(){return this;}def n(p){x=new a;return x;}}");
        CHECK.due("pairs", x::read, 9);
        CHECK.due("the result of the first method", () -> x.may(0, 0), -1);
        CHECK.due("y may be the result", () -> x.may(2, 1), 4);
        CHECK.due("y may not be the argument", () -> x.may(2, 0), -1);
        CHECK.due("z may be the result", () -> x.may(3, 1), 4);
        CHECK.due("w may be nothing", () -> x.may(4, 0), -1);
    }

    /** Promise 15: "rounds until nothing new came (the last one with a fact; 0 without facts)". */
    private static void lastRound() {
        StringBuilder chain = new StringBuilder();
        for (char c = 'a'; c < 'z'; c++) {
            chain.insert(0, (char) (c + 1) + "=" + c + ";");
        }
        PointsTo x = CHECK.good("class a{field f;def go(){" + chain + "a=new a;z.f=z;}}");
        CHECK.due("the end of a chain against the text", () -> x.may(x.count(6) - 26, 1), 26);
        CHECK.due("a field is the last fact", () -> x.count(7), 27);
        CHECK.due("its round", () -> x.holds(1, 0, 1), 27);
        PointsTo y = CHECK.good("class a{def go(){x=new a;x.m();}def m(){}}");
        CHECK.due("a call is the last fact", () -> y.count(7), 2);
    }

    /** Promise 10: "1 if every site that the VAR of a CAST may be is of a class below that of the CAST, else 0". */
    private static void safeCasts() {
        PointsTo x = CHECK.good("class a{def go(){x=(b)n;y=new b;x=(b)y;y=new c;x=(b)y;z=(c)y;z=(c)z;w=(a)this;w=(b)w;}}class b:a{}class c:b{}");
        int[] safe = {1, 1, 1, 0, 1, 1, 0};
        for (int c = 0; c < safe.length; c++) {
            int cast = c;
            CHECK.due("safe " + c, () -> x.safe(cast), safe[c]);
        }
        PointsTo y = CHECK.good("class a{def go(){" + "x=new a;".repeat(10) + "x=new b;y=(a)x;z=(b)x;}}class b{}");
        CHECK.due("the last site is the wrong one", () -> y.safe(0), 0);
        CHECK.due("the first sites are the wrong ones", () -> y.safe(1), 0);
    }

    /** Promise 11: "1 if there is a site that both variables may be, else 0". */
    private static void aliases() {
        PointsTo x = CHECK.good("class a{def go(){" + "x=new a;".repeat(10) + "y=new a;x=y;z=this;w=n;}}");
        CHECK.due("the last site alone", () -> x.alias(2, 3), 1);
        CHECK.due("and the other way", () -> x.alias(3, 2), 1);
        CHECK.due("site 0 alone", () -> x.alias(1, 4), 1);
        CHECK.due("no site", () -> x.alias(2, 4), 0);
        CHECK.due("one that may be nothing", () -> x.alias(5, 2), 0);
        CHECK.due("itself, that may be nothing", () -> x.alias(5, 5), 0);
        CHECK.due("itself", () -> x.alias(4, 4), 1);
    }

    /** Promise 4: "how many pairs of a variable and a site that it may be there are". */
    private static void pairs() {
        CHECK.due("none", CHECK.good("class a{}")::read, 0);
        CHECK.due("one", CHECK.good("class a{def go(){}}")::read, 1);
        StringBuilder copies = new StringBuilder();
        for (char c = 'a'; c < 'u'; c++) {
            copies.append((char) (c + 1)).append('=').append(c).append(';');
        }
        PointsTo x = CHECK.good("class a{def go(){a=this;" + "a=new a;".repeat(11) + copies + "return u;}}");
        CHECK.due("all 12 sites of 22 variables, and this", x::read, 22 * 12 + 1);
        CHECK.due("the last one", () -> x.may(22, 11), 21);
        CHECK.due("the result", () -> x.may(0, 11), 22);
    }
}
