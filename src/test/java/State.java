/** All that an object can be asked without changing it, as one text. */
final class State {
    private final PointsTo x;
    // Asked once: an object answers no more than 512 calls.
    private final int[] counts = new int[10];
    private final StringBuilder out = new StringBuilder();

    private State(PointsTo x) {
        this.x = x;
        for (int what = 0; what < counts.length; what++) {
            counts[what] = x.count(what);
        }
    }

    /** The program, its facts, the last run, the fault and the text's length. */
    static String all(PointsTo x) {
        return program(x) + lastRun(x) + "fault " + x.fault() + "\ntext " + x.count(9) + "\n";
    }

    static String program(PointsTo x) {
        State s = new State(x);
        for (int what = 0; what <= 7; what++) {
            s.put("count " + what, s.counts[what]);
        }
        s.putVariables();
        s.putFields();
        s.putMethods();
        for (int cast = 0; cast < s.counts[4]; cast++) {
            s.put("safe " + cast, x.safe(cast));
        }
        return s.out.toString();
    }

    static String lastRun(PointsTo x) {
        return "objects: " + x.count(8) + "\n" + seen(x);
    }

    static String seen(PointsTo x) {
        State s = new State(x);
        for (int variable = 0; variable < s.counts[6]; variable++) {
            for (int site = 0; site < s.counts[5]; site++) {
                s.put("seen " + variable + " " + site, x.seen(variable, site));
            }
        }
        return s.out.toString();
    }

    private void put(String what, int answer) {
        out.append(what).append(": ").append(answer).append('\n');
    }

    private void putVariables() {
        for (int variable = 0; variable < counts[6]; variable++) {
            for (int site = 0; site < counts[5]; site++) {
                put("may " + variable + " " + site, x.may(variable, site));
            }
            put("alias " + variable, x.alias(variable, counts[6] - 1));
        }
    }

    private void putFields() {
        for (int site = 0; site < counts[5]; site++) {
            for (int field = 0; field < counts[2]; field++) {
                for (int target = 0; target < counts[5]; target++) {
                    put("holds " + site + " " + field + " " + target, x.holds(site, field, target));
                }
            }
        }
    }

    private void putMethods() {
        for (int method = 0; method < counts[1]; method++) {
            put("reached " + method, x.reached(method));
            for (int what = 0; what <= 4; what++) {
                put("method " + method + " " + what, x.method(method, what));
            }
            for (int call = 0; call < counts[3]; call++) {
                put("goes " + call + " " + method, x.goes(call, method));
            }
        }
    }
}
