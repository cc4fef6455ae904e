import java.util.ArrayList;
import java.util.Arrays;
import java.util.HashSet;
import java.util.LinkedHashSet;
import java.util.List;
import java.util.Set;
import java.util.regex.Matcher;
import java.util.regex.Pattern;

/**
 * The document's words done the slow way, to be compared with the program: days and minutes are walked
 * one by one, all orders are listed, terms are split as texts, and faults are found by an Earley
 * recogniser over the grammar as it is printed.
 */
final class Model {
    private static final String[][] GRAMMAR = {
        {"TEXT", "RULE"}, {"TEXT", "TEXT", "RULE"},
        {"RULE", "bar", "if", "COND", ";"}, {"RULE", "class", "INT", "if", "COND", ";"},
        {"RULE", "points", "E", ";"}, {"RULE", "points", "E", "if", "COND", ";"},
        {"RULE", "title", "INT", "under", "INT", ";"},
        {"COND", "ALL"}, {"COND", "COND", "or", "ALL"},
        {"ALL", "REL"}, {"ALL", "ALL", "and", "REL"},
        {"REL", "E", "==", "E"}, {"REL", "E", "!=", "E"}, {"REL", "E", "<", "E"}, {"REL", "E", "<=", "E"},
        {"E", "PART"}, {"E", "E", "+", "PART"}, {"E", "E", "-", "PART"},
        {"PART", "UNIT"}, {"PART", "PART", "*", "UNIT"},
        {"UNIT", "INT"}, {"UNIT", "VAR"}, {"UNIT", "(", "E", ")"}};
    private static final List<String> VARS = Arrays.asList(
            "age", "sex", "breed", "group", "class", "own", "kin", "parted", "beaten");
    private static final Set<String> HEADS = Set.of(
            "TEXT", "RULE", "COND", "ALL", "REL", "E", "PART", "UNIT");
    private static final Pattern LEXEME = Pattern.compile(
            "[a-z]+|[0-9]+|==|!=|<=|[^\\t\\n\\r ]", Pattern.DOTALL);
    private static final Pattern TOKEN = Pattern.compile(
            "[a-z]{1,8}|[0-9]{1,4}|==|!=|<=|[;+\\-*<()]");

    private StringBuilder tape = new StringBuilder();
    private List<List<String>> rules = new ArrayList<>();
    private int faultPlace = -1;
    private final Set<Integer> kins = new HashSet<>();
    private final List<int[]> breeds = new ArrayList<>();
    private final List<int[]> dogs = new ArrayList<>();
    private final int[] permit = new int[12];
    private int ringCount = 1;
    private final List<Integer> days = new ArrayList<>();
    private final List<Set<Integer>> entries = new ArrayList<>();
    private final List<int[][]> plans = new ArrayList<>();
    private final List<int[]> facts = new ArrayList<>();

    // ---- the text

    int feed(int a, int b, int c, int d, int e) {
        if (tape.length() + 20 > 2000) return -1;
        for (int four : new int[] {a, b, c, d, e}) {
            for (int k = 3; k >= 0; k--) tape.append((char) (four >>> 8 * k & 0xff));
        }
        return tape.length();
    }

    int back(int n) {
        if (n < 0 || n > tape.length()) return -1;
        tape.setLength(tape.length() - n);
        return tape.length();
    }

    int place() {
        return faultPlace;
    }

    int read() {
        String text = tape.toString();
        tape = new StringBuilder();
        List<String> tokens = new ArrayList<>();
        int fault = firstFault(text, tokens);
        if (fault != 0) return fault;
        faultPlace = -1;
        rules = new ArrayList<>();
        List<String> rule = new ArrayList<>();
        for (String token : tokens) {
            if (token.equals(";")) {
                rules.add(rule);
                rule = new ArrayList<>();
            } else {
                rule.add(token);
            }
        }
        return 0;
    }

    private int firstFault(String text, List<String> tokens) {
        List<Set<Item>> sets = new ArrayList<>();
        Set<Item> first = new LinkedHashSet<>();
        for (int p = 0; p < GRAMMAR.length; p++) {
            if (GRAMMAR[p][0].equals("TEXT")) first.add(new Item(p, 1, 0));
        }
        sets.add(first);
        close(sets);
        Matcher lexemes = LEXEME.matcher(text);
        int ruleCount = 0;
        int open = 0;
        while (lexemes.find()) {
            String lexeme = lexemes.group();
            faultPlace = lexemes.start();
            if (!TOKEN.matcher(lexeme).matches() || !scan(sets, lexeme)) return 1;
            if (tokens.isEmpty() || tokens.get(tokens.size() - 1).equals(";")) ruleCount++;
            if (lexeme.equals("(")) open++;
            if (lexeme.equals(")")) open--;
            tokens.add(lexeme);
            if (tokens.size() > 400 || ruleCount > 16 || open > 6) return 2;
        }
        faultPlace = text.length();
        boolean whole = tokens.isEmpty();
        for (Item item : sets.get(sets.size() - 1)) {
            whole |= item.isDone() && item.from == 0 && GRAMMAR[item.rule][0].equals("TEXT");
        }
        return whole ? 0 : 1;
    }

    private record Item(int rule, int dot, int from) {
        boolean isDone() {
            return dot == GRAMMAR[rule].length;
        }

        String next() {
            return isDone() ? "" : GRAMMAR[rule][dot];
        }
    }

    private static void close(List<Set<Item>> sets) {
        int here = sets.size() - 1;
        List<Item> work = new ArrayList<>(sets.get(here));
        for (int i = 0; i < work.size(); i++) {
            Item item = work.get(i);
            List<Item> found = new ArrayList<>();
            if (item.isDone()) {
                for (Item parent : sets.get(item.from)) {
                    if (parent.next().equals(GRAMMAR[item.rule][0])) {
                        found.add(new Item(parent.rule, parent.dot + 1, parent.from));
                    }
                }
            } else if (HEADS.contains(item.next())) {
                for (int p = 0; p < GRAMMAR.length; p++) {
                    if (GRAMMAR[p][0].equals(item.next())) found.add(new Item(p, 1, here));
                }
            }
            for (Item add : found) {
                if (sets.get(here).add(add)) work.add(add);
            }
        }
    }

    private static boolean scan(List<Set<Item>> sets, String token) {
        Set<Item> next = new LinkedHashSet<>();
        for (Item item : sets.get(sets.size() - 1)) {
            String want = item.next();
            boolean fits = want.equals("INT") ? Character.isDigit(token.charAt(0))
                    : want.equals("VAR") ? VARS.contains(token) : want.equals(token);
            if (fits && !item.isDone()) next.add(new Item(item.rule, item.dot + 1, item.from));
        }
        sets.add(next);
        close(sets);
        return !next.isEmpty();
    }

    private static List<List<String>> split(List<String> tokens, String at) {
        List<List<String>> parts = new ArrayList<>();
        parts.add(new ArrayList<>());
        for (String token : tokens) {
            if (token.equals(at)) parts.add(new ArrayList<>());
            else parts.get(parts.size() - 1).add(token);
        }
        return parts;
    }

    private static boolean isTrue(List<String> cond, int[] vars) {
        for (List<String> all : split(cond, "or")) {
            boolean each = true;
            for (List<String> rel : split(all, "and")) each &= relates(rel, vars);
            if (each) return true;
        }
        return false;
    }

    private static boolean relates(List<String> rel, int[] vars) {
        for (String sign : new String[] {"==", "!=", "<", "<="}) {
            int k = rel.indexOf(sign);
            if (k < 0) continue;
            int left = term(rel.subList(0, k), vars);
            int right = term(rel.subList(k + 1, rel.size()), vars);
            switch (sign) {
                case "==": return left == right;
                case "!=": return left != right;
                case "<": return left < right;
                default: return left <= right;
            }
        }
        throw new IllegalStateException("no relation in " + rel);
    }

    private static int term(List<String> e, int[] vars) {
        int k = lastOutside(e, "+", "-");
        if (k < 0) k = lastOutside(e, "*", "*");
        if (k >= 0) {
            int left = term(e.subList(0, k), vars);
            int right = term(e.subList(k + 1, e.size()), vars);
            String sign = e.get(k);
            return sign.equals("+") ? left + right : sign.equals("-") ? left - right : left * right;
        }
        if (e.get(0).equals("(")) return term(e.subList(1, e.size() - 1), vars);
        int var = VARS.indexOf(e.get(0));
        return var >= 0 ? vars[var] : Integer.parseInt(e.get(0));
    }

    private static int lastOutside(List<String> e, String one, String other) {
        int open = 0;
        for (int k = e.size() - 1; k >= 0; k--) {
            String token = e.get(k);
            if (token.equals(")")) open++;
            if (token.equals("(")) open--;
            if (open == 0 && (token.equals(one) || token.equals(other))) return k;
        }
        return -1;
    }

    /** The first rule of a kind that holds. */
    private int holding(String kind, int[] vars) {
        for (int r = 0; r < rules.size(); r++) {
            List<String> rule = rules.get(r);
            int k = rule.indexOf("if");
            if (rule.get(0).equals(kind) && (k < 0 || isTrue(rule.subList(k + 1, rule.size()), vars))) return r;
        }
        return -1;
    }

    // ---- persons, breeds, dogs, shows, entries, facts

    private static boolean in(int v, int from, int to) {
        return from <= v && v <= to;
    }

    private boolean noShow(int s) {
        return !in(s, 0, days.size() - 1);
    }

    private boolean noDog(int d) {
        return !in(d, 0, dogs.size() - 1);
    }

    private boolean noBreed(int b) {
        return !in(b, 0, breeds.size() - 1);
    }

    private boolean noKnown(int n) {
        return !in(n, 0, facts.size());
    }

    private static boolean noPerson(int p) {
        return !in(p, 0, 11);
    }

    boolean kin(int one, int other) {
        if (noPerson(one) || noPerson(other) || one == other || !kins.add(one * 12 + other)) return false;
        kins.add(other * 12 + one);
        return true;
    }

    int breed(int group, int minutes, int from, int to) {
        if (breeds.size() == 6 || !in(group, 0, 2) || !in(minutes, 1, 9)) return -1;
        if (!in(from, 0, 99) || !in(to, 0, 99) || from > to) return -1;
        breeds.add(new int[] {group, minutes, from, to});
        return breeds.size() - 1;
    }

    int dog(int breed, int birth, int sex, int owner, int handler) {
        if (dogs.size() == 20 || noBreed(breed) || !in(birth, 0, 9999) || !in(sex, 0, 1)) return -1;
        if (noPerson(owner) || noPerson(handler)) return -1;
        dogs.add(new int[] {breed, birth, sex, owner, handler});
        return dogs.size() - 1;
    }

    boolean permits(int person, int bits) {
        if (noPerson(person) || !in(bits, 0, 63)) return false;
        permit[person] = bits;
        return true;
    }

    boolean rings(int n) {
        if (!in(n, 1, 3)) return false;
        ringCount = n;
        return true;
    }

    int show(int day) {
        if (days.size() == 5 || !in(day, 0, 9999)) return -1;
        if (!days.isEmpty() && day <= days.get(days.size() - 1)) return -1;
        days.add(day);
        entries.add(new LinkedHashSet<>());
        plans.add(new int[6][]);
        return days.size() - 1;
    }

    int enter(int show, int dog) {
        if (noShow(show) || noDog(dog) || entries.get(show).contains(dog)) return -1;
        int c = classed(show, dog);
        if (c == -1) return -2;
        if (plans.get(show)[dogs.get(dog)[0]] != null) return -3;
        entries.get(show).add(dog);
        return c;
    }

    int fact(int kind, int show, int dog, int v) {
        if (facts.size() == 200 || noShow(show) || noDog(dog) || !in(kind, 0, 3)) return -1;
        int[][] range = {{1, 20}, {0, 0}, {0, 0}, {0, 99}};
        if (!in(v, range[kind][0], range[kind][1])) return -1;
        facts.add(new int[] {kind, show, dog, v});
        return facts.size() - 1;
    }

    int owned(int dog, int person, int day) {
        if (facts.size() == 200 || noDog(dog) || noPerson(person) || !in(day, 0, 9999)) return -1;
        facts.add(new int[] {4, day, dog, person});
        return facts.size() - 1;
    }

    int owner(int dog, int day, int n) {
        if (noDog(dog) || !in(day, 0, 9999) || noKnown(n)) return -1;
        for (int d = day; d >= 0; d--) {
            for (int i = n - 1; i >= 0; i--) {
                int[] f = facts.get(i);
                if (f[0] == 4 && f[2] == dog && f[1] == d) return f[3];
            }
        }
        return dogs.get(dog)[3];
    }

    int parted(int person, int dog, int day, int n) {
        if (noPerson(person) || noDog(dog) || !in(day, 0, 9999) || noKnown(n)) return -2;
        int[] had = new int[day + 1];
        Arrays.fill(had, dogs.get(dog)[3]);
        int[] told = new int[day + 1];
        Arrays.fill(told, -1);
        for (int i = 0; i < n; i++) {
            int[] f = facts.get(i);
            if (f[0] == 4 && f[2] == dog && f[1] <= day) told[f[1]] = f[3];
        }
        for (int d = 0; d <= day; d++) {
            had[d] = told[d] >= 0 ? told[d] : d > 0 ? had[d - 1] : had[d];
        }
        if (had[day] == person) return -1;
        for (int ago = 1; ago <= day; ago++) {
            if (had[day - ago] == person) return ago;
        }
        return -1;
    }

    private int[] dogVars(int show, int dog) {
        int[] d = dogs.get(dog);
        int[] vars = new int[9];
        vars[0] = days.get(show) > d[1] ? days.get(show) - d[1] : 0;
        vars[1] = d[2];
        vars[2] = d[0];
        vars[3] = breeds.get(d[0])[0];
        return vars;
    }

    int classed(int show, int dog) {
        if (noShow(show) || noDog(dog)) return -2;
        int r = holding("class", dogVars(show, dog));
        return r < 0 ? -1 : Integer.parseInt(rules.get(r).get(1));
    }

    int barred(int person, int show, int dog, int n) {
        if (noPerson(person) || noShow(show) || noDog(dog) || noKnown(n)) return -1;
        int owner = owner(dog, days.get(show), n);
        int[] vars = dogVars(show, dog);
        vars[4] = classed(show, dog);
        vars[5] = owner == person ? 1 : 0;
        vars[6] = kins.contains(owner * 12 + person) ? 1 : 0;
        vars[7] = parted(person, dog, days.get(show), n);
        return holding("bar", vars);
    }

    // ---- a plan

    private List<Integer> ofBreed(int show, int breed) {
        List<Integer> some = new ArrayList<>();
        for (int d : entries.get(show)) {
            if (dogs.get(d)[0] == breed) some.add(d);
        }
        return some;
    }

    int plan(int show, int n) {
        if (noShow(show) || noKnown(n)) return -1;
        List<Integer> shown = new ArrayList<>();
        boolean[][] may = new boolean[6][12];
        for (int b = 0; b < breeds.size(); b++) {
            List<Integer> here = ofBreed(show, b);
            if (here.isEmpty()) continue;
            shown.add(b);
            boolean any = false;
            for (int p = 0; p < 12; p++) {
                may[b][p] = (permit[p] & 1 << b) != 0;
                for (int d : here) may[b][p] &= barred(p, show, d, n) == -1;
                any |= may[b][p];
            }
            if (!any) return -2;
        }
        List<List<Integer>> orders = new ArrayList<>();
        listOrders(shown, new ArrayList<>(), orders);
        int[][] best = null;
        int bestLast = 0;
        int bestSum = 0;
        for (List<Integer> order : orders) {
            int[][] plan = byOrder(show, order, may);
            int last = 0;
            int sum = 0;
            for (int b : order) {
                last = Math.max(last, plan[b][3]);
                sum += plan[b][3];
            }
            if (best == null || last < bestLast || last == bestLast && sum < bestSum) {
                best = plan;
                bestLast = last;
                bestSum = sum;
            }
        }
        plans.set(show, best);
        return bestLast;
    }

    private static void listOrders(List<Integer> all, List<Integer> head, List<List<Integer>> orders) {
        if (head.size() == all.size()) {
            orders.add(new ArrayList<>(head));
            return;
        }
        for (int b : all) {
            if (head.contains(b)) continue;
            head.add(b);
            listOrders(all, head, orders);
            head.remove(head.size() - 1);
        }
    }

    private int[][] byOrder(int show, List<Integer> order, boolean[][] may) {
        int[][] plan = new int[6][];
        boolean[][] ringBusy = new boolean[3][500];
        boolean[][] judgeBusy = new boolean[12][500];
        boolean[][] handlerBusy = new boolean[12][500];
        for (int b : order) {
            List<Integer> here = ofBreed(show, b);
            int length = here.size() * breeds.get(b)[1];
            for (int t = 0; plan[b] == null; t++) {
                boolean free = true;
                for (int d : here) free &= isFree(handlerBusy[dogs.get(d)[4]], t, length);
                for (int r = 0; r < ringCount && free; r++) {
                    for (int j = 0; j < 12 && plan[b] == null; j++) {
                        if (may[b][j] && isFree(ringBusy[r], t, length) && isFree(judgeBusy[j], t, length)) {
                            plan[b] = new int[] {r, j, t, t + length};
                        }
                    }
                }
            }
            Arrays.fill(ringBusy[plan[b][0]], plan[b][2], plan[b][3], true);
            Arrays.fill(judgeBusy[plan[b][1]], plan[b][2], plan[b][3], true);
            for (int d : here) Arrays.fill(handlerBusy[dogs.get(d)[4]], plan[b][2], plan[b][3], true);
        }
        return plan;
    }

    private static boolean isFree(boolean[] busy, int from, int length) {
        for (int t = from; t < from + length; t++) {
            if (busy[t]) return false;
        }
        return true;
    }

    int planned(int show, int breed, int what) {
        if (noShow(show) || noBreed(breed) || !in(what, 0, 3) || plans.get(show)[breed] == null) return -1;
        return plans.get(show)[breed][what];
    }

    int clash(int show, int breed, int minute) {
        if (noShow(show) || noBreed(breed) || !in(minute, 0, 9999) || plans.get(show)[breed] == null) return -1;
        int length = plans.get(show)[breed][3] - plans.get(show)[breed][2];
        for (int h = 0; h < 12; h++) {
            for (int t = minute; t < minute + length; t++) {
                int rings = 0;
                for (int b = 0; b < breeds.size(); b++) {
                    int[] p = plans.get(show)[b];
                    boolean on = p != null && (b == breed || p[2] <= t && t < p[3]);
                    boolean there = false;
                    for (int d : ofBreed(show, b)) there |= dogs.get(d)[4] == h;
                    if (on && there) rings++;
                }
                if (rings > 1) return h;
            }
        }
        return -1;
    }

    // ---- results

    private List<Integer> told(int kind, int show, int dog, int n) {
        List<Integer> found = new ArrayList<>();
        for (int i = 0; i < n; i++) {
            int[] f = facts.get(i);
            if (f[0] == kind && f[1] == show && f[2] == dog) found.add(i);
        }
        return found;
    }

    int counts(int show, int dog, int n) {
        if (noShow(show) || noDog(dog) || noKnown(n)) return -1;
        if (!entries.get(show).contains(dog)) return 1;
        if (!told(1, show, dog, n).isEmpty()) return 2;
        if (!told(2, show, dog, n).isEmpty()) return 3;
        int breed = dogs.get(dog)[0];
        List<Integer> measures = new ArrayList<>();
        for (int i : told(3, show, dog, n)) measures.add(facts.get(i)[3]);
        int size = measures.size();
        List<Integer> last = new ArrayList<>(measures.subList(Math.max(0, size - 3), size));
        last.sort(null);
        if (size > 0) {
            int held = last.get(last.size() == 3 ? 1 : 0);
            if (!in(held, breeds.get(breed)[2], breeds.get(breed)[3])) return 4;
        }
        int[] p = plans.get(show)[breed];
        if (p == null) return 5;
        return barred(p[1], show, dog, n) == -1 ? 0 : 6;
    }

    int winner(int show, int breed, int n) {
        if (noShow(show) || noBreed(breed) || noKnown(n)) return -1;
        for (int rank = 1; rank <= 20; rank++) {
            for (int i = 0; i < n; i++) {
                int[] f = facts.get(i);
                if (f[0] != 0 || f[1] != show || f[3] != rank || dogs.get(f[2])[0] != breed) continue;
                List<Integer> ranks = told(0, show, f[2], n);
                if (ranks.get(ranks.size() - 1) == i && counts(show, f[2], n) == 0) return f[2];
            }
        }
        return -1;
    }

    int points(int show, int dog, int n) {
        if (noShow(show) || noDog(dog) || noKnown(n)) return 0;
        int breed = dogs.get(dog)[0];
        if (winner(show, breed, n) != dog) return 0;
        int[] vars = dogVars(show, dog);
        vars[4] = classed(show, dog);
        for (int d : ofBreed(show, breed)) {
            if (d != dog && counts(show, d, n) == 0) vars[8]++;
        }
        int r = holding("points", vars);
        if (r < 0) return 0;
        List<String> rule = rules.get(r);
        int end = rule.contains("if") ? rule.indexOf("if") : rule.size();
        return term(rule.subList(1, end), vars);
    }

    int title(int dog, int n) {
        if (noDog(dog) || noKnown(n)) return -1;
        for (List<String> rule : rules) {
            if (!rule.get(0).equals("title")) continue;
            int breed = dogs.get(dog)[0];
            for (int upTo = 0; upTo < days.size(); upTo++) {
                int sum = 0;
                Set<Integer> judges = new HashSet<>();
                for (int s = 0; s <= upTo; s++) {
                    sum += points(s, dog, n);
                    if (winner(s, breed, n) == dog) judges.add(planned(s, breed, 1));
                }
                int need = Integer.parseInt(rule.get(1));
                if (sum >= need && judges.size() >= Integer.parseInt(rule.get(3))) return upTo;
            }
            return -1;
        }
        return -1;
    }

    int changed(int show, int n, int m) {
        if (noShow(show) || noKnown(n) || noKnown(m)) return -1;
        for (int b = 0; b < breeds.size(); b++) {
            if (winner(show, b, n) != winner(show, b, m)) return b;
        }
        return -1;
    }

    int count(int what) {
        int[] all = {breeds.size(), dogs.size(), days.size(), facts.size(), rules.size(), ringCount, tape.length()};
        if (in(what, 0, 6)) return all[what];
        if (what >= 10 && !noShow(what - 10)) return entries.get(what - 10).size();
        return -1;
    }
}
