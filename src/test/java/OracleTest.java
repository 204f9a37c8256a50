import java.util.Arrays;
import java.util.Random;

/** Made-up texts, whole and damaged, answered by the program and by the oracle. */
public final class OracleTest {
    private static final int TEXTS = 12000;
    private static final Check CHECK = new Check("OracleTest");

    public static void main(String[] args) {
        long seed = args.length > 0 ? Long.parseLong(args[0]) : 1;
        Texts maker = new Texts(new Random(seed));
        int[] tally = new int[9];
        PointsTo used = new PointsTo();
        for (int i = 0; i < TEXTS; i++) {
            String text = maker.make();
            if (text.length() <= 320) {
                used = i % 3 == 0 ? new PointsTo() : used;
                Check.replace(used, text);
                new Comparison(used, new Oracle(text), text, tally).all();
            }
        }
        everyTokenAtEveryPlace(tally);
        System.out.println("OracleTest: texts with a fault " + tally[0] + ", good " + tally[1] + ", with a start " + tally[2]
            + "; runs that end " + tally[3] + ", of null " + tally[4] + ", cast " + tally[5] + ", lacking " + tally[6]
            + ", too long " + tally[7]);
        for (int i = 0; i < 8; i++) {
            CHECK.same("texts of kind " + i + " are there", tally[i] > 20, true);
        }
        CHECK.end();
    }

    /** A text that has all of the grammar, with each token put before, and in the place of, each of its own. */
    private static void everyTokenAtEveryPlace(int[] tally) {
        String[] tokens = ("class a { field f ; def go ( ) { x = new a ; if x { } else { } while x { x = null ; } return x ; } "
            + "def m ( p , q ) { p . f = this ; p . m ( p , q ) ; x = ( a ) p ; x = p ; x = q . f ; x = p . m ( q ) ; } } class b : a { }").split(" ");
        String[] others = ("{ } ( ) = . , ; : class field def new null if else while return this a b x f go z abcdefg A").split(" ");
        for (int i = 0; i <= tokens.length; i++) {
            String before = String.join(" ", Arrays.copyOfRange(tokens, 0, i));
            String behind = String.join(" ", Arrays.copyOfRange(tokens, i, tokens.length));
            int next = behind.indexOf(' ');
            String without = next < 0 ? "" : behind.substring(next);
            compare(before + without, tally);
            for (String other : others) {
                compare(before + " " + other + " " + behind, tally);
                compare(before + " " + other + without, tally);
            }
        }
    }

    private static void compare(String text, int[] tally) {
        PointsTo x = new PointsTo();
        Check.append(x, text);
        new Comparison(x, new Oracle(text), text, tally).all();
    }

    private static final class Comparison {
        private final PointsTo x;
        private final Oracle o;
        private final String text;
        private final int[] tally;

        Comparison(PointsTo x, Oracle o, String text, int[] tally) {
            this.x = x;
            this.o = o;
            this.text = text;
            this.tally = tally;
        }

        private void due(String what, Check.Call call, int want) {
            CHECK.due(what + " in " + text, call, want);
        }

        void all() {
            String told = Check.told(x::read);
            CHECK.same("read of " + text, told, o.fault < 0 ? "" + o.pairs() : "throws.IllegalArgumentException");
            due("fault", x::fault, o.fault);
            tally[o.fault < 0 ? 1 : 0]++;
            if (o.fault < 0 && x.fault() < 0) {
                counts();
                variables();
                others();
                run();
            }
        }

        private void counts() {
            int[] want = {o.classes.size(), o.methods.size(), o.fields.size(), o.calls.size(), o.casts.size(),
                o.sites.size(), o.variables.size(), o.lastRound};
            for (int what = 0; what < want.length; what++) {
                int asked = what;
                due("count " + what, () -> x.count(asked), want[what]);
            }
            due("count 9", () -> x.count(9), text.length());
        }

        private void variables() {
            for (int v = 0; v < o.variables.size(); v++) {
                int variable = v;
                for (int s = 0; s < o.sites.size(); s++) {
                    int site = s;
                    due("may " + v + " " + s, () -> x.may(variable, site), o.fact(Oracle.may(v, s)));
                }
                int other = v * 7 % o.variables.size();
                due("alias " + v + " " + other, () -> x.alias(variable, other), o.alias(v, other));
            }
        }

        private void others() {
            for (int c = 0; c < o.calls.size(); c++) {
                for (int m = 0; m < o.methods.size(); m++) {
                    int call = c;
                    int method = m;
                    due("goes " + c + " " + m, () -> x.goes(call, method), o.fact("goes " + c + " " + m));
                }
            }
            for (int m = 0; m < o.methods.size(); m++) {
                int method = m;
                Oracle.Method want = o.methods.get(m);
                due("reached " + m, () -> x.reached(method), o.fact("reached " + m));
                int[] parts = {want.result(), want.self(), want.parameter(0), want.parameter(1), want.owner()};
                for (int what = 0; what < 5; what++) {
                    int asked = what;
                    due("method " + m + " " + what, () -> x.method(method, asked), parts[what]);
                }
            }
            for (int c = 0; c < o.casts.size(); c++) {
                int cast = c;
                due("safe " + c, () -> x.safe(cast), o.safe(c));
            }
            for (int i = 0; i < o.sites.size() * o.fields.size() * o.sites.size(); i++) {
                int site = i % o.sites.size();
                int target = i / o.sites.size() % o.sites.size();
                int field = i / o.sites.size() / o.sites.size();
                String fact = "holds " + site + " " + field + " " + target;
                due(fact, () -> x.holds(site, field, target), o.fact(fact));
            }
        }

        private void run() {
            due("seen before the run", () -> seenOnes(false), 0);
            String told = Check.told(o::run);
            CHECK.same("run of " + text, Check.told(x::run), told);
            if (!o.hasStart()) {
                return;
            }
            tally[2]++;
            String[] kinds = {"", "NoSuch", "Unsupp", "IndexO", "Illega"};
            for (int k = 0; k < kinds.length; k++) {
                tally[3 + k] += k == 0 ? told.startsWith("throws") ? 0 : 1 : told.startsWith("throws." + kinds[k]) ? 1 : 0;
            }
            due("count 8", () -> x.count(8), o.made);
            due("what was seen", () -> seenOnes(true), o.seen.size());
        }

        /** How many pairs were seen; each must be one that may be. */
        private int seenOnes(boolean hasRun) {
            int ones = 0;
            for (int v = 0; v < o.variables.size(); v++) {
                for (int s = 0; s < o.sites.size(); s++) {
                    int seen = x.seen(v, s);
                    ones += seen;
                    if (hasRun) {
                        CHECK.same("seen " + v + " " + s + " in " + text, seen, o.seen.contains(v + " " + s) ? 1 : 0);
                        CHECK.same("seen but not found " + v + " " + s + " in " + text, seen == 1 && x.may(v, s) < 0, false);
                    }
                }
            }
            return ones;
        }
    }
}
