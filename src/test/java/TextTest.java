/** Promises 1 to 3, and what promise 15 says of the text. */
public final class TextTest {
    private static final Check CHECK = new Check("TextTest");

    public static void main(String[] args) {
        newObject();
        append();
        appendRefuses();
        fullText();
        cut();
        CHECK.end();
    }

    private static void newObject() {
        PointsTo x = new PointsTo();
        for (int what = 0; what <= 9; what++) {
            int asked = what;
            CHECK.due("new count " + what, () -> x.count(asked), 0);
        }
        CHECK.due("new fault", x::fault, -1);
        Class<java.util.NoSuchElementException> none = java.util.NoSuchElementException.class;
        CHECK.thrown("new may", () -> x.may(0, 0), none);
        CHECK.thrown("new holds", () -> x.holds(0, 0, 0), none);
        CHECK.thrown("new goes", () -> x.goes(0, 0), none);
        CHECK.thrown("new reached", () -> x.reached(0), none);
        CHECK.thrown("new safe", () -> x.safe(0), none);
        CHECK.thrown("new alias", () -> x.alias(0, 0), none);
        CHECK.thrown("new method", () -> x.method(0, 0), none);
        CHECK.thrown("new method, wrong what", () -> x.method(0, 9), none);
        CHECK.thrown("new run", x::run, none);
        CHECK.thrown("new seen", () -> x.seen(0, 0), none);
        CHECK.thrown("new count -1", () -> x.count(-1), IllegalArgumentException.class);
        CHECK.thrown("new count 10", () -> x.count(10), IllegalArgumentException.class);
        CHECK.thrown("new read", x::read, IllegalArgumentException.class);
        CHECK.due("fault of the empty text", x::fault, 0);
    }

    private static void append() {
        PointsTo x = new PointsTo();
        CHECK.due("append 8", () -> x.append(Check.bytes("class a "), 8), 8);
        CHECK.due("append lowest of more", () -> x.append(Check.bytes("zzzzzz{"), 1), 9);
        CHECK.due("append over bad higher bytes", () -> x.append(0x8000_0000_0000_0000L | '}', 1), 10);
        CHECK.due("append order", x::read, 0);
        CHECK.due("count 9", () -> x.count(9), 10);
        CHECK.due("lowest and highest code", () -> x.append(32 << 8 | 126, 2), 12);
    }

    private static void appendRefuses() {
        PointsTo x = new PointsTo();
        Class<IllegalArgumentException> wrong = IllegalArgumentException.class;
        for (int n : new int[] {0, -1, 9, Integer.MIN_VALUE, Integer.MAX_VALUE}) {
            CHECK.thrown("append n " + n, () -> x.append(Check.bytes("aaaaaaaa"), n), wrong);
        }
        for (int code : new int[] {0, 31, 127, 128, 255}) {
            CHECK.thrown("append code " + code, () -> x.append(code, 1), wrong);
            CHECK.thrown("append first code " + code, () -> x.append((long) code << 16 | 'a' << 8 | 'a', 3), wrong);
        }
        CHECK.thrown("append a short value", () -> x.append('a', 8), wrong);
        CHECK.due("nothing was appended", () -> x.count(9), 0);
    }

    private static void fullText() {
        PointsTo x = new PointsTo();
        Check.append(x, " ".repeat(316));
        CHECK.thrown("one too many", () -> x.append(Check.bytes("aaaaa"), 5), IllegalStateException.class);
        CHECK.due("unchanged", () -> x.count(9), 316);
        CHECK.due("up to the brim", () -> x.append(Check.bytes("aaaa"), 4), 320);
        CHECK.thrown("behind the brim", () -> x.append('a', 1), IllegalStateException.class);
        CHECK.thrown("the code is tested first", () -> x.append(7, 1), IllegalArgumentException.class);
        CHECK.thrown("n is tested first", () -> x.append('a', 0), IllegalArgumentException.class);
        CHECK.due("cut all", () -> x.cut(320), 0);
    }

    private static void cut() {
        PointsTo x = new PointsTo();
        Check.append(x, "class a{}zz");
        CHECK.due("cut none", () -> x.cut(0), 11);
        CHECK.thrown("cut too many", () -> x.cut(12), IllegalArgumentException.class);
        CHECK.thrown("cut fewer than none", () -> x.cut(-1), IllegalArgumentException.class);
        CHECK.thrown("cut the least", () -> x.cut(Integer.MIN_VALUE), IllegalArgumentException.class);
        CHECK.due("unchanged", () -> x.count(9), 11);
        CHECK.thrown("read before", x::read, IllegalArgumentException.class);
        CHECK.due("cut the last ones", () -> x.cut(2), 9);
        CHECK.due("read behind", x::read, 0);
    }
}
