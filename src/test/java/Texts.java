import java.util.ArrayList;
import java.util.List;
import java.util.Random;

/** Makes up texts: programs, programs at the limits, and damaged ones. */
final class Texts {
    private static final String[] CLASSES = {"a", "b", "c", "d", "e", "h", "i"};

    private final Random random;
    private final StringBuilder out = new StringBuilder();
    private int depth;
    private int classes;
    private int size;

    Texts(Random random) {
        this.random = random;
    }

    private boolean chance(int percent) {
        return random.nextInt(100) < percent;
    }

    private String one(String... of) {
        return of[random.nextInt(of.length)];
    }

    private void put(String... tokens) {
        for (String t : tokens) {
            boolean parted = out.length() > 0 && !t.isEmpty() && Character.isLetter(out.charAt(out.length() - 1))
                && Character.isLetter(t.charAt(0));
            out.append(parted || chance(1) ? " " : "").append(t);
        }
    }

    /** A text, whole or damaged; it may be longer than an object takes. */
    String make() {
        out.setLength(0);
        if (chance(20)) {
            crowd(random.nextInt(9));
            return chance(10) ? damaged(out.toString()) : out.toString();
        }
        classes = 1 + random.nextInt(chance(10) ? 7 : 4);
        size = 1 + random.nextInt(chance(20) ? 14 : 6);
        for (int i = 0; i < classes; i++) {
            put("class", CLASSES[i]);
            if (i > 0 && chance(70)) {
                put(":", CLASSES[random.nextInt(i)]);
            }
            put("{");
            members(i);
            put("}");
        }
        return chance(35) ? damaged(out.toString()) : out.toString();
    }

    /** A text with as many of one kind as may be, or one less or more. */
    private void crowd(int kind) {
        int[] limits = {6, 10, 8, 12, 8, 11, 11, 40, 3};
        int wanted = limits[kind] - 1 + random.nextInt(3);
        classes = 2;
        if (kind < 3) {
            crowdOfNames(kind, wanted);
            return;
        }
        put("class", "a", "{", "field", "f", ";", "def", "go", "(", ")", "{");
        int before = kind == 6 ? 11 : kind == 8 ? -1 : random.nextInt(3);
        for (int i = 0; i < wanted; i++) {
            if (i == before) {
                put("}", "def", "m", "(", chance(50) ? "p" : " ", ")", "{");
            }
            crowdOne(kind, i);
        }
        if (kind == 6) {
            put("}", "def", "n", "(", "p", ")", "{");
            for (int i = random.nextInt(2); i < 11; i++) {
                crowdOne(kind, i);
            }
        } else if (kind == 8) {
            put("}".repeat(chance(97) ? wanted : wanted - 1));
        }
        if (chance(30)) {
            statement();
        }
        put("}", "}", "class", "b", ":", "a", "{", "}");
    }

    private void crowdOfNames(int kind, int wanted) {
        String[] names = {"a", "b", "c", "d", "e", "f", "g", "h", "i", "j", "k", "l"};
        put("class", "a", "{");
        for (int i = kind == 0 ? 1 : 0; i < wanted; i++) {
            String name = chance(2) ? one(names) : names[i];
            if (kind == 0 || chance(8)) {
                put("}", "class", kind == 0 ? name : "z" + names[i], kind == 0 && chance(50) ? ":a{" : "{");
            }
            if (kind == 1) {
                put("def", name, chance(50) ? "(){" : "(p){", chance(20) ? "return p;}" : "}");
            } else if (kind == 2) {
                put("field", name, ";");
            }
        }
        put("}");
    }

    private void crowdOne(int kind, int number) {
        switch (kind) {
            case 3 -> put(chance(50) ? "x=" : "", "x.", one("m", "n", "f"), chance(50) ? "(x)" : "()", ";");
            case 4 -> put("x=(", type(), ")", variable(), ";");
            case 5 -> put(name(), "=new", type(), ";");
            case 6 -> crowdPair("" + (char) ('a' + 2 * number), "" + (char) ('b' + 2 * number));
            case 7 -> put("x=x;");
            default -> put(chance(50) ? "if x{" : chance(50) ? "while x{" : "if x{}else{", chance(20) ? "x=x;" : " ");
        }
        if (chance(3) && kind != 8) {
            statement();
        }
    }

    private void crowdPair(String first, String second) {
        switch (random.nextInt(10)) {
            case 0 -> put(first, ".f=", second, ";");
            case 1 -> put(first, ".m(this,", second, ");");
            case 2 -> put(first, "=(a)", second, ";");
            default -> put(first, "=", second, ";");
        }
    }

    private void members(int type) {
        List<String> methods = new ArrayList<>(List.of("m", "n", "k"));
        if (type == 0 && chance(97)) {
            put("field", "f", ";");
            method("go", chance(97) ? 0 : 1);
            methods.remove(random.nextInt(3));
        }
        if (chance(type == 0 ? 20 : 40)) {
            put("field", one("g", "l", "o", type == 0 ? "g" : "f"), ";");
        }
        for (String name : methods) {
            if (chance(type == 0 ? 60 : 35)) {
                method(name, name.equals("m") ? chance(90) ? 1 : 0 : name.equals("n") ? 0 : 2);
            }
        }
    }

    private void method(String name, int parameters) {
        put("def", name, "(");
        if (parameters > 0) {
            put("p");
        }
        if (parameters > 1) {
            put(",", "q");
        }
        put(")", "{");
        int statements = name.equals("go") ? size + 2 : random.nextInt(1 + size / 2 + 1);
        for (int i = 0; i < statements; i++) {
            statement();
        }
        if (!name.equals("go") && chance(60)) {
            put("return", variable(), ";");
        }
        put("}");
    }

    private String variable() {
        return chance(25) ? "this" : chance(3) ? one("r", "s", "t", "u", "v", "w") : one("x", "x", "y", "y", "z", "p");
    }

    private String name() {
        String name = variable();
        return name.equals("this") ? "x" : name;
    }

    private String type() {
        return CLASSES[random.nextInt(chance(1) ? 7 : classes)];
    }

    private void statement() {
        int kind = random.nextInt(20);
        if (kind < 2 && depth < (chance(2) ? 5 : 3)) {
            put(kind == 0 ? "if" : one("if", "while"), variable());
            boolean loop = out.lastIndexOf("while") > out.lastIndexOf("if");
            body();
            if (!loop && chance(40)) {
                put("else");
                body();
            }
        } else if (kind < 4) {
            put(variable(), ".", field(), "=", variable(), ";");
        } else if (kind < 7) {
            call();
            put(";");
        } else if (kind == 7 && chance(20)) {
            put("return", variable(), ";");
        } else {
            put(name(), "=");
            right();
            put(";");
        }
    }

    private void body() {
        depth++;
        put("{");
        for (int i = random.nextInt(3); i > 0; i--) {
            statement();
        }
        put("}");
        depth--;
    }

    private String field() {
        return chance(85) ? "f" : one("g", "l", "o", "zz");
    }

    private void call() {
        put(variable(), ".");
        String name = chance(2) ? "zz" : one("m", "n", "k", "m", "n", "k", "go");
        int arguments = chance(5) ? random.nextInt(3) : name.equals("m") ? 1 : name.equals("k") ? 2 : 0;
        put(name, "(");
        if (arguments > 0) {
            put(variable());
        }
        if (arguments > 1) {
            put(",", variable());
        }
        put(")");
    }

    private void right() {
        int kind = random.nextInt(10);
        if (kind < 4) {
            put("new", type());
        } else if (kind == 4 && chance(50)) {
            put("null");
        } else if (kind == 5) {
            put("(", type(), ")", variable());
        } else if (kind == 6) {
            put(variable(), ".", field());
        } else if (kind == 7) {
            call();
        } else {
            put(variable());
        }
    }

    private String damaged(String text) {
        StringBuilder s = new StringBuilder(text);
        int at = random.nextInt(s.length());
        String[] pieces = {"{", "}", "(", ")", "=", ".", ",", ";", ":", " ", "class ", "field ", "def ", "new ", "null",
            "if ", "else", "while ", "return ", "this", "x", "abcdefg", "A", "1", "~", "a", "go"};
        switch (random.nextInt(5)) {
            case 0 -> s.deleteCharAt(at);
            case 1 -> s.insert(at, one(pieces));
            case 2 -> s.replace(at, at + 1, one(pieces));
            case 3 -> s.setLength(at);
            default -> s.replace(at, Math.min(s.length(), at + 1 + random.nextInt(6)), chance(50) ? "" : one(pieces));
        }
        return chance(10) && s.length() > 0 ? damaged(s.toString()) : s.toString();
    }
}
