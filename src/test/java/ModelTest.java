import java.util.ArrayList;
import java.util.Arrays;
import java.util.List;

/** Runs of thrown calls, each answered by the program and by the slow model; the answers must agree. */
public final class ModelTest {
    private static final int RUNS = 1500;
    private static final int CALLS = 512;
    private static final String[] NAMES = {
        "feed", "back", "read", "place", "kin", "breed", "dog", "permits", "rings", "show", "enter", "fact",
        "owned", "plan", "planned", "barred", "clash", "classed", "counts", "winner", "points", "title", "owner",
        "parted", "changed", "count"};
    /** How often each call is thrown, in the order of the names; texts come by themselves. */
    private static final int[] WEIGHTS = {
        0, 1, 0, 1, 4, 4, 14, 9, 2, 4, 26, 30, 12, 8, 10, 10, 10, 5, 14, 14, 14, 12, 6, 8, 10, 5};

    private final Check check;
    private final Dice dice;
    private final int run;
    private final ShowRings program = new ShowRings();
    private final Model model = new Model();
    private final List<String> calls = new ArrayList<>();
    private final int lastDay;

    private ModelTest(Check check, int run) {
        this.check = check;
        this.run = run;
        dice = new Dice(run);
        lastDay = dice.one(4) ? 9999 : 45;
    }

    public static void main(String[] args) {
        Check check = new Check("ModelTest");
        int runs = args.length > 1 ? Integer.parseInt(args[1]) : RUNS;
        for (int run = 0; run < runs && !check.hasWrong(); run++) {
            new ModelTest(check, run).throwCalls();
        }
        for (int run = 0; run < runs && !check.hasWrong(); run++) {
            hurtTexts(check, run);
        }
        check.end();
    }

    private static void hurtTexts(Check check, int run) {
        Dice dice = new Dice(run + 1_000_000L);
        ShowRings program = new ShowRings();
        Model model = new Model();
        for (int i = 0; i < 4 && !check.hasWrong(); i++) {
            String text = dice.hurtText();
            byte[] bytes = Check.bytes(text);
            Check.feed(program, text);
            for (int k = 0; k < bytes.length; k += 20) {
                model.feed(Check.four(bytes, k / 4), Check.four(bytes, k / 4 + 1), Check.four(bytes, k / 4 + 2),
                        Check.four(bytes, k / 4 + 3), Check.four(bytes, k / 4 + 4));
            }
            model.back((20 - bytes.length % 20) % 20);
            check.due("read() of <" + text + ">", program.read(), model.read());
            check.due("place() of <" + text + ">", program.place(), model.place());
            check.due("count(4) of <" + text + ">", program.count(4), model.count(4));
        }
    }

    private void throwCalls() {
        int first = dice.between(0, 3);
        for (int i = 0; i < first; i++) {
            ask(5, dice.below(3), dice.between(1, 9), dice.below(40), dice.between(40, 99), 0);
        }
        throwText();
        while (calls.size() < CALLS && !check.hasWrong()) {
            if (dice.one(60)) {
                throwText();
            } else {
                throwCall();
            }
        }
        if (check.hasWrong()) {
            calls.forEach(System.out::println);
        }
    }

    private void throwText() {
        boolean tame = dice.one(2);
        String text = dice.one(6) ? dice.hurtText()
                : (tame ? "class 1 if age < 9; class 2 if 1 == 1;" : "") + dice.text(dice.below(tame ? 8 : 12));
        byte[] bytes = Check.bytes(text.length() > 2000 ? text.substring(0, 2000) : text);
        for (int k = 0; k < bytes.length; k += 20) {
            ask(0, Check.four(bytes, k / 4), Check.four(bytes, k / 4 + 1), Check.four(bytes, k / 4 + 2),
                    Check.four(bytes, k / 4 + 3), Check.four(bytes, k / 4 + 4));
        }
        ask(1, (20 - bytes.length % 20) % 20, 0, 0, 0, 0);
        ask(25, 6, 0, 0, 0, 0);
        ask(2, 0, 0, 0, 0, 0);
        ask(3, 0, 0, 0, 0, 0);
        ask(25, 4, 0, 0, 0, 0);
    }

    private void throwCall() {
        int all = Arrays.stream(WEIGHTS).sum();
        int thrown = dice.below(all);
        int op = 0;
        while (thrown >= WEIGHTS[op]) {
            thrown -= WEIGHTS[op];
            op++;
        }
        throwCall(op);
    }

    private int wrongOr(int right, int size) {
        return dice.one(50) ? (dice.one(2) ? dice.between(-3, -1) : size + dice.below(3)) : right;
    }

    private int person() {
        return wrongOr(dice.one(2) ? dice.below(5) : dice.below(12), 12);
    }

    private int dog() {
        return wrongOr(dice.below(Math.max(1, model.count(1))), model.count(1));
    }

    private int breed() {
        return wrongOr(dice.below(Math.max(1, model.count(0))), model.count(0));
    }

    private int show() {
        return wrongOr(dice.below(Math.max(1, model.count(2))), model.count(2));
    }

    private int day() {
        return wrongOr(dice.between(0, lastDay), 10000);
    }

    private int known() {
        int all = model.count(3);
        return wrongOr(dice.one(2) ? all : dice.between(0, all), all + 1);
    }

    private void throwCall(int op) {
        switch (op) {
            case 1: ask(op, dice.between(-1, 2), 0, 0, 0, 0); break;
            case 4: ask(op, person(), person(), 0, 0, 0); break;
            case 5: ask(op, wrongOr(dice.below(3), 3), wrongOr(dice.between(1, 9), 10), wrongOr(dice.below(50), 100),
                    wrongOr(dice.between(45, 99), 100), 0); break;
            case 6: ask(op, breed(), day(), wrongOr(dice.below(2), 2), person(), person()); break;
            case 7: ask(op, person(), wrongOr(dice.one(3) ? 63 : dice.below(64), 64), 0, 0, 0); break;
            case 8: ask(op, dice.one(9) ? dice.between(-1, 5) : dice.between(1, 3), 0, 0, 0, 0); break;
            case 9: ask(op, lastDay == 45 ? dice.between(0, 6) + 8 * model.count(2) : day(), 0, 0, 0, 0); break;
            case 10: case 17: ask(op, show(), dog(), 0, 0, 0); break;
            case 11: throwFact(); break;
            case 12: ask(op, dog(), person(), day(), 0, 0); break;
            case 13: ask(op, show(), known(), 0, 0, 0); break;
            case 14: ask(op, show(), breed(), dice.between(-1, 4), 0, 0); break;
            case 15: ask(op, person(), show(), dog(), known(), 0); break;
            case 16: ask(op, show(), breed(), wrongOr(dice.below(60), 10000), 0, 0); break;
            case 18: case 20: ask(op, show(), dog(), known(), 0, 0); break;
            case 19: ask(op, show(), breed(), known(), 0, 0); break;
            case 21: ask(op, dog(), known(), 0, 0, 0); break;
            case 22: ask(op, dog(), day(), known(), 0, 0); break;
            case 23: ask(op, person(), dog(), day(), known(), 0); break;
            case 24: ask(op, show(), known(), known(), 0, 0); break;
            case 25: ask(op, dice.between(-1, 16), 0, 0, 0, 0); break;
            default: ask(op, 0, 0, 0, 0, 0);
        }
    }

    private void throwFact() {
        int kind = dice.one(60) ? dice.between(-1, 5) : dice.one(6) ? dice.between(1, 2) : dice.one(3) ? 3 : 0;
        int v = kind == 0 ? wrongOr(dice.between(1, dice.one(2) ? 20 : 4), 21)
                : kind == 3 ? wrongOr(dice.between(dice.one(3) ? 0 : 35, dice.one(3) ? 99 : 60), 100) : dice.one(40) ? 1 : 0;
        ask(11, kind, show(), dog(), v, 0);
    }

    private void ask(int op, int a, int b, int c, int d, int e) {
        if (calls.size() >= CALLS) {
            return;
        }
        String call = NAMES[op] + "(" + a + ", " + b + ", " + c + ", " + d + ", " + e + ")";
        calls.add(call);
        check.due("run " + run + " call " + calls.size() + " " + call, program(op, a, b, c, d, e), model(op, a, b, c, d, e));
    }

    private int program(int op, int a, int b, int c, int d, int e) {
        ShowRings x = program;
        switch (op) {
            case 0: return x.feed(a, b, c, d, e);
            case 1: return x.back(a);
            case 2: return x.read();
            case 3: return x.place();
            case 4: return x.kin(a, b) ? 1 : 0;
            case 5: return x.breed(a, b, c, d);
            case 6: return x.dog(a, b, c, d, e);
            case 7: return x.permits(a, b) ? 1 : 0;
            case 8: return x.rings(a) ? 1 : 0;
            case 9: return x.show(a);
            case 10: return x.enter(a, b);
            case 11: return x.fact(a, b, c, d);
            case 12: return x.owned(a, b, c);
            case 13: return x.plan(a, b);
            case 14: return x.planned(a, b, c);
            case 15: return x.barred(a, b, c, d);
            case 16: return x.clash(a, b, c);
            case 17: return x.classed(a, b);
            case 18: return x.counts(a, b, c);
            case 19: return x.winner(a, b, c);
            case 20: return x.points(a, b, c);
            case 21: return x.title(a, b);
            case 22: return x.owner(a, b, c);
            case 23: return x.parted(a, b, c, d);
            case 24: return x.changed(a, b, c);
            default: return x.count(a);
        }
    }

    private int model(int op, int a, int b, int c, int d, int e) {
        Model x = model;
        switch (op) {
            case 0: return x.feed(a, b, c, d, e);
            case 1: return x.back(a);
            case 2: return x.read();
            case 3: return x.place();
            case 4: return x.kin(a, b) ? 1 : 0;
            case 5: return x.breed(a, b, c, d);
            case 6: return x.dog(a, b, c, d, e);
            case 7: return x.permits(a, b) ? 1 : 0;
            case 8: return x.rings(a) ? 1 : 0;
            case 9: return x.show(a);
            case 10: return x.enter(a, b);
            case 11: return x.fact(a, b, c, d);
            case 12: return x.owned(a, b, c);
            case 13: return x.plan(a, b);
            case 14: return x.planned(a, b, c);
            case 15: return x.barred(a, b, c, d);
            case 16: return x.clash(a, b, c);
            case 17: return x.classed(a, b);
            case 18: return x.counts(a, b, c);
            case 19: return x.winner(a, b, c);
            case 20: return x.points(a, b, c);
            case 21: return x.title(a, b);
            case 22: return x.owner(a, b, c);
            case 23: return x.parted(a, b, c, d);
            case 24: return x.changed(a, b, c);
            default: return x.count(a);
        }
    }
}
