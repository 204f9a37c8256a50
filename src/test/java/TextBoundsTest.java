import java.util.NoSuchElementException;

/** The boundary cases of promises 1 to 3, sentence by sentence. */
public final class TextBoundsTest {
    private static final Check CHECK = new Check("TextBoundsTest");
    private static final Class<IllegalArgumentException> WRONG = IllegalArgumentException.class;
    private static final Class<IllegalStateException> FULL = IllegalStateException.class;
    private static final int[] ENDS = {Integer.MIN_VALUE, Integer.MIN_VALUE + 1, Integer.MAX_VALUE - 1, Integer.MAX_VALUE};

    public static void main(String[] args) {
        newObject();
        objectsApart();
        lastCall();
        lengthOfText();
        fullTextIsRead();
        numberOfBytes();
        codes();
        bytesAbove();
        mostSignificantFirst();
        orderOfTesting();
        cutNoneAndAll();
        cutTooMany();
        cutTakesTheLast();
        textStaysWithTheProgram();
        CHECK.end();
    }

    private static PointsTo filled(int length) {
        PointsTo x = new PointsTo();
        Check.append(x, "class a{}" + " ".repeat(length - 9));
        return x;
    }

    /** Promise 1: "makes an object in the state that the terms give". */
    private static void newObject() {
        PointsTo x = new PointsTo();
        CHECK.same("a new object", State.all(x).replaceAll("count \\d: 0\n", ""), "objects: 0\nfault -1\ntext 0\n");
        for (int number : new int[] {-1, 0, 1, Integer.MIN_VALUE, Integer.MAX_VALUE}) {
            Class<NoSuchElementException> none = NoSuchElementException.class;
            CHECK.thrown("may without a program", () -> x.may(number, 0), none);
            CHECK.thrown("holds without a program", () -> x.holds(number, 0, 0), none);
            CHECK.thrown("goes without a program", () -> x.goes(number, 0), none);
            CHECK.thrown("reached without a program", () -> x.reached(number), none);
            CHECK.thrown("safe without a program", () -> x.safe(number), none);
            CHECK.thrown("alias without a program", () -> x.alias(number, number), none);
            CHECK.thrown("method without a program", () -> x.method(number, 0), none);
            CHECK.thrown("method of a wrong what without a program", () -> x.method(0, 5), none);
            CHECK.thrown("seen without a program", () -> x.seen(number, 0), none);
            CHECK.refused("run without a program", x, x::run, none);
        }
        CHECK.refused("cut of an empty text", x, () -> x.cut(1), WRONG);
        CHECK.due("cut of nothing", () -> x.cut(0), 0);
    }

    private static void objectsApart() {
        PointsTo first = Check.reader("class a{def go(){x=this;}}");
        first.run();
        PointsTo second = new PointsTo();
        CHECK.same("a second object", State.all(second), State.all(new PointsTo()));
        Check.append(second, "class a{}class");
        Check.told(second::read);
        CHECK.due("the first one's program", () -> first.count(6), 3);
        CHECK.due("the first one's fault", first::fault, -1);
        CHECK.due("the first one's run", () -> first.seen(2, 0), 1);
    }

    /** "An object is used for at most 512 calls after it has been made". */
    private static void lastCall() {
        PointsTo x = new PointsTo();
        Check.append(x, "class a{def go(){x=this;while x{x=new a;}}}");
        for (int call = 6; call < 510; call++) {
            String told = Check.told(call % 3 == 0 ? x::read : call % 3 == 1 ? x::run : x::fault);
            CHECK.same("call " + call, told, call % 3 == 0 ? "3" : call % 3 == 1 ? "throws.IllegalStateException" : "-1");
        }
        CHECK.due("the 511th call", () -> x.cut(1), 42);
        CHECK.thrown("the 512th call", x::read, WRONG);
    }

    /** "THE TEXT has up to 320 characters"; "More than 320 would be there: IllegalStateException". */
    private static void lengthOfText() {
        for (int n = 1; n <= 8; n++) {
            int bytes = n;
            PointsTo fits = filled(320 - n);
            CHECK.due("the last " + n + " of 320", () -> fits.append(0x2020202020202020L, bytes), 320);
            CHECK.refused("one behind " + n, fits, () -> fits.append(' ', 1), FULL);
            PointsTo full = filled(321 - n);
            CHECK.refused("the last " + n + " of 321", full, () -> full.append(0x7a7a7a7a7a7a7a7aL, bytes), FULL);
            CHECK.due("nothing came into the text with " + n, full::read, 0);
            CHECK.due("one less than " + n, () -> bytes == 1 ? full.count(9) : full.append(0x2020202020202020L, bytes - 1), 320);
            CHECK.due("the text is read behind " + n, full::read, 0);
        }
    }

    private static void fullTextIsRead() {
        CHECK.faultAt("class a{" + " ".repeat(311) + "}");
        CHECK.faultAt("class a{}" + " ".repeat(310) + "^z");
        CHECK.faultAt("class a{}" + " ".repeat(310) + "^~");
        CHECK.faultAt("class a" + " ".repeat(312) + "{^");
        CHECK.faultAt(" ".repeat(311) + "class a{}");
        CHECK.faultAt(" ".repeat(319) + "^a");
        CHECK.faultAt("^" + "a".repeat(320));
        CHECK.faultAt("class ^" + "a".repeat(314));
        CHECK.faultAt("^" + " ".repeat(320));
    }

    /** "the n (1 .. 8) lowest bytes"; "n or a code out of range: IllegalArgumentException". */
    private static void numberOfBytes() {
        PointsTo x = filled(9);
        CHECK.due("n of 1", () -> x.append(0x2020202020202020L, 1), 10);
        CHECK.due("n of 8", () -> x.append(0x2020202020202020L, 8), 18);
        for (int n : new int[] {0, 9, -1, -8, 10, 16, 256 + 1, 65536 + 1}) {
            CHECK.refused("n of " + n, x, () -> x.append(0x2020202020202020L, n), WRONG);
        }
        for (int n : ENDS) {
            CHECK.refused("n of " + n, x, () -> x.append(0x2020202020202020L, n), WRONG);
        }
        CHECK.due("the text is as before", x::read, 0);
    }

    /** "of codes 32 .. 126", each byte at each place. */
    private static void codes() {
        PointsTo x = filled(9);
        for (int n = 1; n <= 8; n++) {
            for (int place = 0; place < n; place++) {
                int bytes = n;
                long others = 0x7a7a7a7a7a7a7a7aL & ~(255L << 8 * place);
                for (long code : new long[] {32, 126}) {
                    PointsTo y = new PointsTo();
                    long value = others | code << 8 * place;
                    CHECK.due("code " + code + " at " + place + " of " + n, () -> y.append(value, bytes), bytes);
                }
                for (long code : new long[] {31, 127, 0, 128, 255}) {
                    long value = others | code << 8 * place;
                    CHECK.thrown("code " + code + " at " + place + " of " + n, () -> x.append(value, bytes), WRONG);
                }
            }
        }
        CHECK.due("no code came in", () -> x.count(9), 9);
        CHECK.due("the text is as before", x::read, 0);
        PointsTo y = new PointsTo();
        for (int code = 32; code <= 126; code++) {
            int asked = code;
            CHECK.due("code " + code, () -> y.append(asked, 1), asked - 31);
        }
        for (int code = -130; code <= 300; code++) {
            int low = code & 255;
            if (low < 32 || low > 126) {
                int asked = code;
                CHECK.thrown("code " + code, () -> new PointsTo().append(asked, 1), WRONG);
            }
        }
    }

    private static void bytesAbove() {
        for (int n = 1; n < 8; n++) {
            int bytes = n;
            long low = 0x7a7a7a7a7a7a7a7aL >>> 8 * (8 - n);
            for (long above : new long[] {-1L, 0x1f1f1f1f1f1f1f1fL, Long.MIN_VALUE}) {
                PointsTo x = new PointsTo();
                CHECK.due("bytes above the lowest " + n, () -> x.append(above << 8 * bytes | low, bytes), bytes);
            }
        }
        CHECK.thrown("a negative value of 8 bytes", () -> new PointsTo().append(-1L, 8), WRONG);
        CHECK.thrown("the least value", () -> new PointsTo().append(Long.MIN_VALUE, 8), WRONG);
        CHECK.thrown("the greatest value", () -> new PointsTo().append(Long.MAX_VALUE, 8), WRONG);
    }

    private static void mostSignificantFirst() {
        String text = "class a{def go(){x=new a;}}";
        for (int n = 1; n <= 8; n++) {
            PointsTo x = new PointsTo();
            for (int from = 0; from < text.length(); from += n) {
                String part = text.substring(from, Math.min(from + n, text.length()));
                x.append(Check.bytes(part), part.length());
            }
            CHECK.due("a text put in by " + n, x::read, 2);
        }
    }

    /** "What is thrown is told in the order of testing". */
    private static void orderOfTesting() {
        PointsTo x = filled(320);
        CHECK.refused("n before the length", x, () -> x.append(' ', 9), WRONG);
        CHECK.refused("no bytes before the length", x, () -> x.append(' ', 0), WRONG);
        CHECK.refused("the code before the length", x, () -> x.append(31, 1), WRONG);
        CHECK.refused("the length", x, () -> x.append(32, 1), FULL);
        CHECK.due("the text is as before", x::read, 0);
    }

    /** Promise 3: "the last n characters (0 or more)". */
    private static void cutNoneAndAll() {
        for (int length : new int[] {9, 10, 319, 320}) {
            PointsTo x = filled(length);
            CHECK.due("cut none of " + length, () -> x.cut(0), length);
            CHECK.due("the text is as before", x::read, 0);
            CHECK.due("cut all but one of " + length, () -> x.cut(length - 1), 1);
            CHECK.due("cut the last one of " + length, () -> x.cut(1), 0);
            CHECK.due("cut none of none", () -> x.cut(0), 0);
            PointsTo y = filled(length);
            CHECK.due("cut all of " + length, () -> y.cut(length), 0);
            CHECK.thrown("an empty text", y::read, WRONG);
            CHECK.due("its fault", y::fault, 0);
            CHECK.due("room for all again", () -> refilled(y), 320);
        }
    }

    private static int refilled(PointsTo x) {
        Check.append(x, "class b{}" + " ".repeat(311));
        return x.count(9);
    }

    /** "IllegalArgumentException: there are not so many". */
    private static void cutTooMany() {
        for (int length : new int[] {9, 320}) {
            PointsTo x = filled(length);
            for (int n : new int[] {length + 1, length + 2, -1, -length, 1 << 16, 256 * 256 + 1}) {
                CHECK.refused("cut " + n + " of " + length, x, () -> x.cut(n), WRONG);
            }
            for (int n : ENDS) {
                CHECK.refused("cut " + n + " of " + length, x, () -> x.cut(n), WRONG);
            }
            CHECK.due("the text is as before", x::read, 0);
        }
    }

    private static void cutTakesTheLast() {
        PointsTo x = new PointsTo();
        Check.append(x, "class a{}class b");
        for (int left = 15; left > 9; left--) {
            int due = left;
            CHECK.due("cut to " + left, () -> x.cut(1), due);
            CHECK.thrown("read of " + left, x::read, WRONG);
        }
        CHECK.due("cut to 9", () -> x.cut(1) == 9 ? x.read() : -1, 0);
        CHECK.due("cut to 8", () -> x.cut(1), 8);
        Check.append(x, "def go(){}}");
        CHECK.due("put in the place of what was cut", x::read, 1);
    }

    private static void textStaysWithTheProgram() {
        PointsTo x = Check.reader("class a{def go(){x=this;}}");
        x.run();
        String before = State.program(x) + State.lastRun(x);
        x.append('z', 1);
        CHECK.same("append changes the text alone", State.program(x) + State.lastRun(x), before);
        x.cut(27);
        CHECK.same("cut changes the text alone", State.program(x) + State.lastRun(x), before);
        CHECK.due("the fault is that of the last read", x::fault, -1);
    }
}
