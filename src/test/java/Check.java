/** What the tests share: comparing answers, and feeding a text to an object. */
final class Check {
    interface Call {
        int answer();
    }

    private final String test;
    private int wrong;
    private int compared;

    Check(String test) {
        this.test = test;
    }

    /** The answer of a call, or the exception that it throws, as a text. */
    static String told(Call call) {
        try {
            return Integer.toString(call.answer());
        } catch (RuntimeException e) {
            return "throws." + e.getClass().getSimpleName();
        }
    }

    void due(String what, Call call, int want) {
        same(what, told(call), Integer.toString(want));
    }

    void thrown(String what, Call call, Class<? extends RuntimeException> want) {
        same(what, told(call), "throws." + want.getSimpleName());
    }

    void same(String what, Object got, Object want) {
        compared++;
        if (!got.equals(want)) {
            wrong++;
            if (wrong <= 50) {
                System.out.println(test + ": " + what + " answered " + got + ", due is " + want);
            }
        }
    }

    /** Puts a text behind what is there, eight characters at a time. */
    static void append(PointsTo x, String text) {
        for (int from = 0; from < text.length(); from += 8) {
            String part = text.substring(from, Math.min(from + 8, text.length()));
            x.append(bytes(part), part.length());
        }
    }

    static long bytes(String part) {
        long value = 0;
        for (int i = 0; i < part.length(); i++) {
            value = value << 8 | part.charAt(i);
        }
        return value;
    }

    /** Puts a text in the place of the one that is there. */
    static void replace(PointsTo x, String text) {
        x.cut(x.count(9));
        append(x, text);
    }

    /** A new object that has read a text, whether it had a fault or not. */
    static PointsTo reader(String text) {
        PointsTo x = new PointsTo();
        append(x, text);
        told(x::read);
        return x;
    }

    void end() {
        System.out.println(test + ": " + compared + " answers compared, " + wrong + " not as due");
        if (wrong != 0) {
            System.exit(1);
        }
    }
}
