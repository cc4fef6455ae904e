/** Numbers that look thrown but are the same in every run, and texts and calls made of them. */
final class Dice {
    private static final String[] VARS = {
        "age", "sex", "breed", "group", "class", "own", "kin", "parted", "beaten"};
    private static final String[] RELATIONS = {"==", "!=", "<", "<="};
    private static final String[] BLANKS = {" ", " ", " ", "", "\n", "\t", "\r", "  "};
    private static final String[] PIECES = {
        "bar", "if", "class", "points", "title", "under", "or", "and", "age", "own", "kin", "parted", "beaten",
        "sex", "breed", "group", ";", "+", "-", "*", "==", "!=", "<", "<=", "(", ")", "=", "!", "1", "9999", "12345",
        "0007", "00007", "abcdefgh", "abcdefghi", "pointsx", "A", "\u0000", "\u00e9", ">", ".", ","};

    private long state;

    Dice(long seed) {
        state = seed * 0x9E3779B97F4A7C15L + 1;
    }

    int below(int n) {
        state = state * 6364136223846793005L + 1442695040888963407L;
        return (int) ((state >>> 33) % n);
    }

    int between(int from, int to) {
        return from + below(to - from + 1);
    }

    boolean one(int in) {
        return below(in) == 0;
    }

    private String gap() {
        return BLANKS[below(BLANKS.length)];
    }

    /** Two pieces with a blank between, where they would run into one another without. */
    private static String apart(String left, String right) {
        return left + " " + right;
    }

    String term(int depth) {
        int kind = below(depth <= 0 ? 3 : 7);
        switch (kind) {
            case 0: return Integer.toString(below(4));
            case 1: return Integer.toString(one(3) ? below(10000) : below(60));
            case 2: return VARS[below(9)];
            case 3: return term(depth - 1) + gap() + "+" + gap() + term(depth - 1);
            case 4: return term(depth - 1) + gap() + "-" + gap() + term(depth - 1);
            case 5: return term(depth - 1) + gap() + "*" + gap() + term(depth - 1);
            default: return "(" + gap() + term(depth - 1) + gap() + ")";
        }
    }

    String relation() {
        switch (below(9)) {
            case 0: return "own == 1";
            case 1: return "kin==1";
            case 2: return "0 <= parted and parted < " + between(1, 40);
            case 3: return "age < " + below(50);
            case 4: return "class == " + below(3);
            case 5: return "breed != " + below(6);
            case 6: return "beaten <= " + below(3);
            default: return term(2) + gap() + RELATIONS[below(4)] + gap() + term(2);
        }
    }

    String cond() {
        String all = relation();
        for (int i = below(3); i > 0; i--) {
            all = apart(all, apart(one(2) ? "and" : "or", relation()));
        }
        return all;
    }

    String rule() {
        switch (below(6)) {
            case 0: return "bar if " + cond() + gap() + ";";
            case 1: return "class " + below(3) + " if " + cond() + ";";
            case 2: return "class " + below(3) + " if age == age;";
            case 3: return "points " + term(3) + gap() + ";";
            case 4: return "points " + term(2) + " if " + cond() + gap() + ";";
            default: return "title " + (one(2) ? below(8) : below(200)) + " under " + below(4) + ";";
        }
    }

    String text(int rules) {
        StringBuilder all = new StringBuilder(gap());
        for (int i = 0; i < rules; i++) {
            all.append(rule()).append(gap());
        }
        return all.toString();
    }

    /** A text under which all DOGS have a CLASS, few JUDGES are BARRED, and titles come. */
    String mildText() {
        String[] rules = {
            "class 1 if age < " + below(30) + ";", "class 2 if 1 == 1;", "bar if own == 1;", "bar if kin == 1;",
            "bar if 0 <= parted and parted < " + between(1, 30) + ";", "bar if class == 1 and sex == 1;",
            "points 1 + beaten * 2 if class == 2;", "points " + term(3) + " if " + relation() + ";",
            "points 1 + beaten;", "title " + below(12) + " under " + below(3) + ";"};
        StringBuilder all = new StringBuilder();
        for (int i = 0; i < rules.length; i++) {
            if (i == 1 || i >= 8 || one(3)) {
                all.append(rules[i]).append(gap());
            }
        }
        return all.toString();
    }

    /** A text that may have a fault: pieces put in, taken out, many rules, many brackets, many tokens. */
    String hurtText() {
        StringBuilder all = new StringBuilder(text(one(4) ? between(14, 19) : below(5)));
        if (one(4)) {
            all.append("points ").append(nest(between(5, 9)));
            all.append(one(3) ? "" : ";").append(one(2) ? "" : text(1));
        }
        if (one(6)) {
            all.append(longText());
        }
        for (int i = below(3); i > 0; i--) {
            int at = below(all.length() + 1);
            if (one(2)) {
                all.insert(at, PIECES[below(PIECES.length)]);
            } else {
                all.delete(at, Math.min(all.length(), at + between(1, 6)));
            }
        }
        if (one(5)) {
            all.setLength(below(all.length() + 1));
        }
        all.setLength(Math.min(all.length(), 2000));
        return all.toString();
    }

    private String nest(int depth) {
        StringBuilder all = new StringBuilder();
        for (int i = 0; i < depth; i++) {
            all.append(one(4) ? "(1)*(" : "(");
        }
        all.append("age");
        for (int i = 0; i < depth; i++) {
            all.append(")");
        }
        return all.toString();
    }

    /** A RULE with about as many tokens as a text may have, and one more token at its end. */
    private String longText() {
        StringBuilder all = new StringBuilder("points 1");
        for (int i = between(180, 205); i > 0; i--) {
            all.append(one(2) ? "+1" : "*2");
        }
        return all.append(one(2) ? ";" : PIECES[below(PIECES.length)]).toString();
    }
}
