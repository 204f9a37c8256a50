/** Promises 4 and 5: the place of the fault; ^ stands before the faulty token. */
public final class FaultTest {
    private static final Check CHECK = new Check("FaultTest");

    public static void main(String[] args) {
        good();
        tokens();
        classes();
        members();
        statements();
        limits();
        unknownClasses();
        staying();
        CHECK.end();
    }

    private static void at(String marked) {
        CHECK.faultAt(marked);
    }

    private static void inBody(String marked) {
        at("class a{field f;def go(p){" + marked + "}}");
    }

    private static void good() {
        at("class a{}");
        at("  class  a  {  }  class b:a{ } ");
        at("class a{field f;field g;def f(){}def g(f){}def a(f,g){}}");
        at("class a{field f;}class b{field f;}class c:b{def x(){}}class d:c{def x(p){}field g;}");
        at("class go{def go(){go=go;if go{}else{}while this{}return this;}}");
        at("class a{def m(x,y){x=new a;x=null;x=(a)this;x=y;x=this;x=y.f;x=this.f;x=y.g();x=y.g(x);x=this.g(x,this);}}");
        at("class a{def m(x){x.f=this;this.f=x;x.m();this.m(x);x.m(this,x);if x{if x{if x{}}}else{while x{while x{}}}}}");
        at("class a{def m(){x=new b;y=(c)x;}}class b{}class c{}");
        at("class classa{def newnew(thisa){nulls=elses;}}");
        inBody("p=unknwn;p=p.fields;p.gone();");
    }

    private static void tokens() {
        at("^");
        at("^    ");
        at("class^   ");
        at("class a{}^+");
        at("class a{}^A");
        at("class a{}^ab");
        at("class ^longest{}");
        at("class longes{}");
        at("^classes a{}");
        at("^1class a{}");
        at("class^1 a{}");
        at("class ab^Cd{}");
        at("class a^1b{}");
        at("class a{field ^fffffff;}");
        at("class^0");
        at("^~");
        at("^" + ";".repeat(320));
        at("class a{}^" + ";".repeat(311));
    }

    private static void classes() {
        at("^a");
        at("class ^{}");
        at("class ^class{}");
        at("class a^;");
        at("class a^}");
        at("class a:^{}");
        at("class a{}class b:^this{}");
        at("class a{}class ^a{}");
        at("class a{}class b{}class ^a:c{}");
        at("class a:^a{}");
        at("class a:^b{}class b{}");
        at("class a{}class b:^c{}class c{}");
        at("class a{}class b:a^:a{}");
        at("class a{^");
        at("class a{^  ");
        at("class a{}^}");
        at("class a{}^field f;");
        at("class a{}class b:a{}class c:b{}class d:b{}class e:d{}class f:a{}");
    }

    private static void members() {
        at("class a{^x}");
        at("class a{^;}");
        at("class a{^class b{}}");
        at("class a{field ^;}");
        at("class a{field ^if;}");
        at("class a{field f^,}");
        at("class a{field f;field ^f;}");
        at("class a{field f;}class b:a{}class c:b{field g;field ^f;}");
        at("class a{field f;}class b{field g;}class c:b{field f;field ^g;}");
        at("class a{def ^(){}}");
        at("class a{def ^null(){}}");
        at("class a{def m^{}}");
        at("class a{def m(^,){}}");
        at("class a{def m(^this){}}");
        at("class a{def m(p,^){}}");
        at("class a{def m(p ^q){}}");
        at("class a{def m(p,q^,r){}}");
        at("class a{def m(p,^p){}}");
        at("class a{def m(p)^;}");
        at("class a{def m(){}def ^m(){}}");
        at("class a{def m(){}def n(){}def ^m(p){}}");
        at("class a{def m(){}}class b:a{def m(){}def ^m(){}}");
        at("class a{def m()^");
        at("class a{def m(){^");
        at("class a{def m(){}^");
    }

    private static void statements() {
        inBody("^;");
        inBody("^def m(){}");
        inBody("^else{}");
        inBody("^new a;");
        inBody("^null;");
        inBody("^(a)p;");
        inBody("^{}");
        inBody("p^;");
        inBody("p^(p);");
        inBody("p ^p=p;");
        inBody("this^=p;");
        inBody("this^;");
        inBody("p.^this=p;");
        inBody("p.f^;");
        inBody("p.f^.f=p;");
        inBody("p.f=^null;");
        inBody("p.f=^new a;");
        inBody("p.f=p^.f;");
        inBody("p.f=^(a)p;");
        inBody("p.f=p^(p);");
        inBody("p.m(^null);");
        inBody("p.m(p,^);");
        inBody("p.m(p,p^,p);");
        inBody("p.m(^,p);");
        inBody("p.m(p^;");
        inBody("p.m()^.m();");
        inBody("p.m()^=p;");
        inBody("p=^;");
        inBody("p=^if;");
        inBody("p=new ^this;");
        inBody("p=new a^();");
        inBody("p=null^.f;");
        inBody("p=(^this)p;");
        inBody("p=(a^;");
        inBody("p=(a)^null;");
        inBody("p=(a)p^.f;");
        inBody("p=(a)p^(p);");
        inBody("p=p^=p;");
        inBody("p=p.f^.f;");
        inBody("p=p.m()^.f;");
        inBody("p=p^(p);");
        inBody("return^;");
        inBody("return ^null;");
        inBody("return p^.f;");
        inBody("if ^null{}");
        inBody("if^(p){}");
        inBody("if p^;");
        inBody("if p^.f{}");
        inBody("if p{}else ^if p{}");
        inBody("if p{}else{}^else{}");
        inBody("if p{}^;");
        inBody("while p{}^else{}");
        inBody("while ^{}");
        at("class a{def m(){while m{^");
    }

    private static void limits() {
        String six = "class a{}class b{}class c{}class d{}class e{}class f{}";
        at(six);
        at(six + "class ^g{}");
        at(six + "class ^{");
        String eight = "field a;field b;field c;field d;field e;field f;field g;field h;";
        at("class a{" + eight + "}");
        at("class a{" + eight + "field ^i;}");
        at("class a{" + eight + "}class b{field h;field a;}");
        at("class a{" + eight + "}class b{field h;field ^z;}");
        at("class a{" + Check.lettered("def %(){}", 10) + "}");
        at("class a{" + Check.lettered("def %(){}", 10) + "def ^z(){}}");
        at("class a{" + Check.lettered("def %(){}", 6) + "}class b{" + Check.lettered("def %(){}", 4) + "def ^z(){}}");
        at("class a{def m(){" + "m.m();m=m.m(m);".repeat(6) + "}}");
        at("class a{def m(){" + "m.m();m=m.m(m);".repeat(6) + "m=this.^m();}}");
        at("class a{def m(){" + "m.m();m=m.m(m);".repeat(6) + "m.^m(m);}}");
        at("class a{def m(){" + "m.m();m=m.m(m);".repeat(6) + "m=m.m;m.m=m;m.m^)}}");
        at("class a{def m(){" + "m=(a)m;".repeat(8) + "}}");
        at("class a{def m(){" + "m=(a)m;".repeat(8) + "m=^(a)m;}}");
        at("class a{def m(){" + "m=new a;".repeat(11) + "}}");
        at("class a{def m(){" + "m=new a;".repeat(11) + "m=^new a;}}");
        at("class a{def m(){" + "m=m;".repeat(40) + "}}");
        at("class a{def m(){" + "m=m;".repeat(40) + "^m=m;}}");
        at("class a{def m(){" + "m=m;".repeat(39) + "if m{^m=m;}}}");
        at("class a{def m(){" + "m=m;".repeat(20) + "}}class b{def m(){" + "m=m;".repeat(20) + "^if m{}}}");
        at("class a{def m(){if m{if m{if m{m=m;}else{}}else{if m{}}}}}");
        at("class a{def m(){if m{if m{if m{if m^{}}}}}}");
        at("class a{def m(){while m{if m{}else{while m{if m^{}}}}}}");
        at("class a{def m(){if m{if m{if m{}else{if m^{}}}}}}");
        variables();
    }

    private static void variables() {
        String full = "class a{def m(){" + alphabet(24) + "}def n(){" + alphabet(20);
        at(full + "}}");
        at(full + "if ^z{}}}");
        at(full + "^z=z;}}");
        at(full + "return ^z;}}");
        at(full + "a=^z;}}");
        at(full + "a=(a)^z;}}");
        at(full + "a.f=^z;}}");
        at(full + "a.m(a,^z);}}");
        at(full + "^z.m(a);}}");
        at(full + "^z;}}");
        at(full + "}def ^o(){}}");
        at("class a{def m(){" + alphabet(24) + "}def n(){" + alphabet(19) + "}def ^o(){}}");
        at("class a{def m(){" + alphabet(24) + "}def n(){" + alphabet(18) + "}def o(){}}");
        at("class a{def m(){" + alphabet(24) + "}def n(){" + alphabet(18) + "}def o(^p){}}");
        at("class a{def m(){" + alphabet(24) + "}def n(){" + alphabet(17) + "}def o(p,^q){}}");
        at("class a{def m(){" + alphabet(24) + "}def n(){" + alphabet(16) + "}def o(p,q){p=q;q.p=this;}}");
        at("class a{def m(){" + alphabet(24) + "}def n(){" + alphabet(16) + "}def o(p,q){p=q;^r=p;}}");
    }

    private static String alphabet(int letters) {
        return Check.copies("abcdefghijklmnopqrstuvwxyz".substring(0, letters));
    }

    private static void unknownClasses() {
        inBody("p=new ^b;");
        inBody("p=(^b)p;");
        inBody("p=new a;p=(a)p;p=(^c)p;p=new b;");
        inBody("p=new ^c;p=(b)p;");
        at("class a{def m(){x=new b;y=(^d)x;}}class b{def m(){x=new e;}}");
        at("class a{def m(){x=new d;}def ^m(){}}");
        at("class a{def m(){x=new d;}}class b{}^;");
        inBody("p=new ^p;");
        inBody("p=new ^f;");
        inBody("p=new ^go;");
    }

    private static void staying() {
        PointsTo x = Check.reader("class a{def go(){x=this;}}");
        CHECK.due("fault of a good text", x::fault, -1);
        CHECK.due("run", x::run, 1);
        Check.replace(x, "class b{}class b{}");
        CHECK.due("fault stays until the next read", x::fault, -1);
        CHECK.thrown("read of a bad text", x::read, IllegalArgumentException.class);
        CHECK.due("fault", x::fault, 15);
        CHECK.due("the program stays", () -> x.count(6), 3);
        CHECK.due("its facts stay", () -> x.may(2, 0), 1);
        CHECK.due("what was seen stays", () -> x.seen(2, 0), 1);
        CHECK.due("the objects stay", () -> x.count(8), 1);
        CHECK.due("the program still runs", x::run, 1);
        Check.replace(x, "class a{def go(){x=this;}}");
        CHECK.due("fault stays", x::fault, 15);
        CHECK.due("read of the good text", x::read, 2);
        CHECK.due("no fault", x::fault, -1);
        CHECK.due("nothing is seen", () -> x.seen(2, 0), 0);
        for (String bad : new String[] {"this.m(this,;", "this.m(;", "x=this.m(this,this);}", "if x{", "y=new b;", "p=x=y;"}) {
            Check.replace(x, "class a{field f;field g;def k(q,r){q.f=r;}def go(){" + bad);
            CHECK.thrown("read of " + bad, x::read, IllegalArgumentException.class);
            Check.replace(x, "class a{def m(p){p.m();}def go(){this.m(this);x=new a;}}");
            CHECK.due("nothing is left of " + bad, x::read, 4);
            CHECK.due("no fields are left of " + bad, () -> x.count(2), 0);
            CHECK.due("the argument behind " + bad, () -> x.may(2, 0), 2);
        }
        Check.replace(x, "class c{}");
        CHECK.due("read of a text without a start", x::read, 0);
        CHECK.due("no variables", () -> x.count(6), 0);
        CHECK.due("site 0", () -> x.count(5), 1);
        CHECK.due("no rounds", () -> x.count(7), 0);
    }
}
