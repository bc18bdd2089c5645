import java.util.Random;

/** Texts for tests: from the grammar, or broken a little. */
final class Texts {
    private final Random random;
    private final boolean blanks;
    private final StringBuilder text = new StringBuilder();

    Texts(Random random, boolean blanks) {
        this.random = random;
        this.blanks = blanks;
    }

    String sound(int clauses) {
        text.setLength(0);
        for (int i = 0; i < clauses; i++) {
            if (i > 0) put(";");
            put("" + "rrrdsgz".charAt(random.nextInt(7)));
            put(":");
            if (random.nextInt(3) == 0) {
                condition(0);
                put("?");
            }
            sum(0);
        }
        return text.toString();
    }

    String broken(int clauses) {
        StringBuilder s = new StringBuilder(sound(clauses));
        int n = random.nextInt(3);
        for (int i = 0; i <= n && s.length() > 0; i++) {
            int at = random.nextInt(s.length());
            char c = random.nextInt(4) == 0 ? (char) (1 + random.nextInt(255))
                : "rdsgz:;?|&!()[]=<>+-*/anbochpy0123456789 ".charAt(random.nextInt(41));
            switch (random.nextInt(4)) {
                case 0: s.setCharAt(at, c); break;
                case 1: s.insert(at, c); break;
                case 2: s.deleteCharAt(at); break;
                default: s.setLength(at);
            }
        }
        return s.length() > 200 ? s.substring(0, 200) : s.toString();
    }

    private void put(String s) {
        while (blanks && random.nextInt(6) == 0) text.append(' ');
        text.append(s);
    }

    private void condition(int depth) {
        part(depth);
        while (random.nextInt(4) == 0) { put("|"); part(depth); }
    }

    private void part(int depth) {
        unit(depth);
        while (random.nextInt(4) == 0) { put("&"); unit(depth); }
    }

    private void unit(int depth) {
        int kind = random.nextInt(5);
        if (kind == 0) {
            put("!");
            unit(depth + 1);
        } else if (kind == 1 && depth < 10) {
            put("(");
            condition(depth + 1);
            put(")");
        } else {
            sum(depth);
            put("" + "=<>".charAt(random.nextInt(3)));
            sum(depth);
        }
    }

    private void sum(int depth) {
        term(depth);
        while (random.nextInt(4) == 0) { put(random.nextBoolean() ? "+" : "-"); term(depth); }
    }

    private void term(int depth) {
        atom(depth);
        while (random.nextInt(4) == 0) { put(random.nextBoolean() ? "*" : "/"); atom(depth); }
    }

    private void atom(int depth) {
        int kind = random.nextInt(7);
        if (kind == 0 && depth < 10) {
            put("[");
            sum(depth + 1);
            put("]");
        } else if (kind < 4) {
            put("" + "anbochpy".charAt(random.nextInt(8)));
        } else {
            int[] ends = {3, 20, 1000, 100000};
            put("" + random.nextInt(ends[random.nextInt(4)]));
        }
    }
}
