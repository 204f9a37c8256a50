/** What the tests share: comparing answers, and feeding a text to an object. */
final class Check {
    interface Call {
        int answer();
    }

    private final String test;
    private int wrong;
    private int compared;

    Check(String test) {
        this.test = test;
    }

    /** The answer of a call, or the exception that it throws, as a text. */
    static String told(Call call) {
        try {
            return Integer.toString(call.answer());
        } catch (RuntimeException e) {
            return "throws." + e.getClass().getSimpleName();
        }
    }

    void due(String what, Call call, int want) {
        same(what, told(call), Integer.toString(want));
    }

    void thrown(String what, Call call, Class<? extends RuntimeException> want) {
        same(what, told(call), "throws." + want.getSimpleName());
    }

    /** A call must throw, and what can be asked must stay as it was. */
    void refused(String what, PointsTo x, Call call, Class<? extends RuntimeException> want) {
        String before = State.all(x);
        thrown(what, call, want);
        same("what stands behind " + what, State.all(x), before);
    }

    /** Reads a text that has its fault at the token behind ^, and none if no ^ is in it. */
    void faultAt(String marked) {
        int place = marked.indexOf('^');
        String text = place < 0 ? marked : marked.substring(0, place) + marked.substring(place + 1);
        PointsTo x = new PointsTo();
        append(x, text);
        String told = told(x::read);
        same("read of " + marked, told.startsWith("throws"), place >= 0);
        if (place >= 0) {
            same("read of " + marked, told, "throws.IllegalArgumentException");
        }
        due("fault of " + marked, x::fault, place);
    }

    void same(String what, Object got, Object want) {
        compared++;
        if (!got.equals(want)) {
            wrong++;
            if (wrong <= 50) {
                System.out.println(test + ": " + what + " answered " + got + ", due is " + want);
            }
        }
    }

    /** Puts a text behind what is there, eight characters at a time. */
    static void append(PointsTo x, String text) {
        for (int from = 0; from < text.length(); from += 8) {
            String part = text.substring(from, Math.min(from + 8, text.length()));
            x.append(bytes(part), part.length());
        }
    }

    static long bytes(String part) {
        long value = 0;
        for (int i = 0; i < part.length(); i++) {
            value = value << 8 | part.charAt(i);
        }
        return value;
    }

    /** Statements that bring in names of one letter as variables, two in each. */
    static String copies(String names) {
        StringBuilder s = new StringBuilder();
        for (int i = 0; i < names.length(); i += 2) {
            s.append(names.charAt(i)).append('=').append(names.charAt(Math.min(i + 1, names.length() - 1))).append(';');
        }
        return s.toString();
    }

    /** A pattern for each of the first letters, which stand in the place of %. */
    static String lettered(String pattern, int letters) {
        StringBuilder s = new StringBuilder();
        for (int i = 0; i < letters; i++) {
            s.append(pattern.replace('%', (char) ('a' + i)));
        }
        return s.toString();
    }

    /** Puts a text in the place of the one that is there. */
    static void replace(PointsTo x, String text) {
        x.cut(x.count(9));
        append(x, text);
    }

    /** A new object that has read a text, whether it had a fault or not. */
    static PointsTo reader(String text) {
        PointsTo x = new PointsTo();
        append(x, text);
        told(x::read);
        return x;
    }

    /** A new object that has read a text without a fault. */
    PointsTo good(String text) {
        PointsTo x = reader(text);
        due("fault of " + text, x::fault, -1);
        return x;
    }

    void end() {
        System.out.println(test + ": " + compared + " answers compared, " + wrong + " not as due");
        if (wrong != 0) {
            System.exit(1);
        }
    }
}
