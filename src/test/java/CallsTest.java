import java.util.List;
import java.util.Map;
import java.util.NoSuchElementException;
import java.util.Random;
import java.util.TreeMap;

/**
 * Runs of 512 calls in any order, each on a new object, as one that uses the
 * class would make them: every answer is compared with that of a model.
 */
public final class CallsTest {
    private static final int RUNS = 400;
    private static final int CALLS = 512;
    private static final Check CHECK = new Check("CallsTest");
    private static final String[] NAMES = {"may", "holds", "goes", "reached", "safe", "alias", "method", "seen", "count"};

    /** What the document says of an object's state, over an oracle for each program. */
    private static final class Model {
        private final StringBuilder text = new StringBuilder();
        // Of the empty text, which has a fault: all its lists are empty, as without a program.
        private Oracle program = new Oracle("");
        private int fault = -1;
        private int made;

        int append(long value, int n) {
            if (n < 1 || n > 8) {
                throw new IllegalArgumentException();
            }
            StringBuilder added = new StringBuilder();
            for (int i = n - 1; i >= 0; i--) {
                added.append((char) (value >> 8 * i & 255));
            }
            if (!added.toString().matches("[ -~]+")) {
                throw new IllegalArgumentException();
            }
            if (text.length() + n > 320) {
                throw new IllegalStateException();
            }
            return text.append(added).length();
        }

        int cut(int n) {
            if (n < 0 || n > text.length()) {
                throw new IllegalArgumentException();
            }
            text.setLength(text.length() - n);
            return text.length();
        }

        int read() {
            Oracle read = new Oracle(text.toString());
            fault = read.fault;
            if (fault >= 0) {
                throw new IllegalArgumentException();
            }
            program = read;
            return program.pairs();
        }

        int run() {
            if (program.methods.isEmpty() || !program.hasStart()) {
                throw new NoSuchElementException();
            }
            try {
                return program.run();
            } finally {
                made = program.made;
            }
        }

        private static void lookFor(int number, List<?> among) {
            if (number < 0 || number >= among.size()) {
                throw new NoSuchElementException();
            }
        }

        int ask(String name, int first, int second, int third) {
            switch (name) {
                case "may", "seen" -> {
                    lookFor(first, program.variables);
                    lookFor(second, program.sites);
                    boolean isSeen = program.seen.contains(first + " " + second);
                    return name.equals("may") ? program.fact(Oracle.may(first, second)) : isSeen ? 1 : 0;
                }
                case "holds" -> {
                    lookFor(first, program.sites);
                    lookFor(second, program.fields);
                    lookFor(third, program.sites);
                    return program.fact("holds " + first + " " + second + " " + third);
                }
                case "goes" -> {
                    lookFor(first, program.calls);
                    lookFor(second, program.methods);
                    return program.fact("goes " + first + " " + second);
                }
                case "reached" -> {
                    lookFor(first, program.methods);
                    return program.fact("reached " + first);
                }
                case "safe" -> {
                    lookFor(first, program.casts);
                    return program.safe(first);
                }
                case "alias" -> {
                    lookFor(first, program.variables);
                    lookFor(second, program.variables);
                    return program.alias(first, second);
                }
                case "method" -> {
                    lookFor(first, program.methods);
                    Oracle.Method m = program.methods.get(first);
                    return oneOf(second, m.result(), m.self(), m.parameter(0), m.parameter(1), m.owner());
                }
                default -> {
                    return oneOf(first, program.classes.size(), program.methods.size(), program.fields.size(),
                        program.calls.size(), program.casts.size(), program.sites.size(), program.variables.size(),
                        program.lastRound, made, text.length());
                }
            }
        }

        private static int oneOf(int what, int... answers) {
            if (what < 0 || what >= answers.length) {
                throw new IllegalArgumentException();
            }
            return answers[what];
        }
    }

    private final Random random;
    private final Texts texts;
    private PointsTo x;
    private Model model;
    // What is still to be put behind the text.
    private String pending;
    private String last;
    // How often each call ended in each way.
    private final Map<String, Integer> tally = new TreeMap<>();

    private CallsTest(long seed) {
        random = new Random(seed);
        texts = new Texts(random);
    }

    public static void main(String[] args) {
        CallsTest test = new CallsTest(args.length > 0 ? Long.parseLong(args[0]) : 1);
        for (int run = 1; run <= RUNS; run++) {
            test.runOfCalls(run);
        }
        test.everyEndIsThere();
        CHECK.end();
    }

    private void everyEndIsThere() {
        String[] ends = {"append", "cut", "read", "run", "may", "holds", "goes", "reached", "safe", "alias", "method",
            "seen", "count", "append IllegalArgument", "append IllegalState", "cut IllegalArgument",
            "read IllegalArgument", "run NoSuchElement", "run UnsupportedOperation", "run IndexOutOfBounds",
            "run IllegalState", "may NoSuchElement", "holds NoSuchElement", "goes NoSuchElement",
            "reached NoSuchElement", "safe NoSuchElement", "alias NoSuchElement", "method NoSuchElement",
            "method IllegalArgument", "seen NoSuchElement", "count IllegalArgument"};
        for (String end : ends) {
            CHECK.same("the end " + end + " is there", tally.getOrDefault(end, 0) >= 10, true);
        }
        System.out.println("CallsTest: " + tally);
    }

    private void runOfCalls(int run) {
        x = new PointsTo();
        model = new Model();
        pending = "";
        last = "";
        for (int call = 1; call <= CALLS; call++) {
            String where = "run " + run + ", call " + call + ", ";
            int kind = random.nextInt(100);
            if (!pending.isEmpty() && kind < 90) {
                appendPending(where);
            } else if (kind < 4 || kind < 8 && last.equals("run")) {
                changeText(where);
            } else if (kind < 6) {
                appendAny(where);
            } else if (kind < 12 || last.equals("append")) {
                compare(where, "read", x::read, model::read);
            } else if (kind < 18 || last.equals("read") && kind < 60) {
                compare(where, "run", x::run, model::run);
            } else if (kind < 22) {
                compare(where, "fault", x::fault, () -> model.fault);
            } else {
                ask(where, NAMES[random.nextInt(NAMES.length)]);
            }
        }
    }

    private void compare(String where, String name, Check.Call real, Check.Call wanted) {
        String want = Check.told(wanted);
        last = name;
        tally.merge(name + want.replaceAll("^-?[0-9]+$", "").replaceAll("throws.(.*)Exception", " $1"), 1, Integer::sum);
        CHECK.same(where + name + " with the text " + model.text, Check.told(real), want);
    }

    private void appendPending(String where) {
        int n = Math.min(pending.length(), random.nextInt(4) > 0 ? 8 : 1 + random.nextInt(8));
        // What stands above the bytes that are asked for is of no account.
        long above = n == 8 ? 0 : (long) random.nextInt(256) << 8 * n;
        long value = above | Check.bytes(pending.substring(0, n));
        pending = pending.substring(n);
        compare(where, "append", () -> x.append(value, n), () -> model.append(value, n));
    }

    private void appendAny(String where) {
        int n = random.nextInt(5) == 0 ? random.nextInt(12) - 1 : 1;
        long value = random.nextInt(3) == 0 ? random.nextLong() : random.nextInt(256);
        compare(where, "append", () -> x.append(value, n), () -> model.append(value, n));
    }

    /** Cuts something off, at times all of it, to make room for another text. */
    private void changeText(String where) {
        int length = model.text.length();
        boolean all = random.nextInt(5) > 1;
        int n = all ? length : random.nextInt(6) - 1 + random.nextInt(4) / 3 * length;
        compare(where, "cut", () -> x.cut(n), () -> model.cut(n));
        pending = all ? texts.make() : random.nextInt(3) == 0 ? "}" : "";
    }

    private void ask(String where, String name) {
        int[] sizes = sizesFor(name);
        int first = number(sizes[0]);
        int second = number(sizes[1]);
        int third = number(sizes[2]);
        compare(where + first + " " + second + " " + third + " asked of ", name, () -> {
            switch (name) {
                case "may": return x.may(first, second);
                case "holds": return x.holds(first, second, third);
                case "goes": return x.goes(first, second);
                case "reached": return x.reached(first);
                case "safe": return x.safe(first);
                case "alias": return x.alias(first, second);
                case "method": return x.method(first, second);
                case "seen": return x.seen(first, second);
                default: return x.count(first);
            }
        }, () -> model.ask(name, first, second, third));
    }

    /** How many numbers there are for each argument of a question. */
    private int[] sizesFor(String name) {
        Oracle o = model.program;
        return switch (name) {
            case "may", "seen" -> new int[] {o.variables.size(), o.sites.size(), 0};
            case "holds" -> new int[] {o.sites.size(), o.fields.size(), o.sites.size()};
            case "goes" -> new int[] {o.calls.size(), o.methods.size(), 0};
            case "reached" -> new int[] {o.methods.size(), 0, 0};
            case "safe" -> new int[] {o.casts.size(), 0, 0};
            case "alias" -> new int[] {o.variables.size(), o.variables.size(), 0};
            case "method" -> new int[] {o.methods.size(), 5, 0};
            default -> new int[] {10, 0, 0};
        };
    }

    /** A number that something has most of the time, at times one that nothing has. */
    private int number(int size) {
        int kind = random.nextInt(40);
        if (kind == 0) {
            return random.nextInt();
        }
        return size == 0 || kind < 4 ? size - random.nextInt(2) * (size + 1) : random.nextInt(size);
    }
}
