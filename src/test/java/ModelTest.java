import java.lang.reflect.Method;
import java.lang.reflect.Modifier;
import java.util.ArrayList;
import java.util.Arrays;
import java.util.HashMap;
import java.util.List;
import java.util.Map;

/** Runs of thrown calls, each answered by the program and by the slow model; the answers must agree. */
public final class ModelTest {
    private static final int RUNS = 400;
    private static final int CALLS = 512;
    private static final String[] NAMES = {
        "feed", "back", "read", "place", "kin", "breed", "dog", "permits", "rings", "show", "enter", "fact",
        "owned", "plan", "planned", "barred", "clash", "classed", "counts", "winner", "points", "title", "owner",
        "parted", "changed", "count"};
    /** How often each call is thrown, in the order of the names; texts come by themselves. */
    private static final int[] WEIGHTS = {
        0, 1, 0, 1, 4, 4, 14, 9, 2, 4, 26, 30, 12, 8, 10, 10, 10, 5, 14, 14, 14, 12, 6, 8, 10, 5};
    private static final int[] ARRANGED_WEIGHTS = {
        0, 0, 0, 0, 2, 0, 0, 2, 1, 0, 3, 30, 9, 4, 4, 8, 10, 2, 8, 12, 14, 14, 4, 8, 10, 1};
    private static final Map<String, Method> METHODS = new HashMap<>();

    private final Check check;
    private final Dice dice;
    private final int run;
    private final ShowRings program = new ShowRings();
    private final Model model = new Model();
    private final List<String> calls = new ArrayList<>();
    private final int lastDay;
    private boolean arranged = false;

    private ModelTest(Check check, int run) {
        this.check = check;
        this.run = run;
        dice = new Dice(run);
        lastDay = dice.one(4) ? 9999 : 45;
    }

    public static void main(String[] args) {
        Check check = new Check("ModelTest");
        int runs = args.length > 1 ? Integer.parseInt(args[1]) : RUNS;
        for (int run = 0; run < runs && !check.hasWrong(); run++) {
            new ModelTest(check, run).throwCalls();
        }
        for (int run = 0; run < runs && !check.hasWrong(); run++) {
            hurtTexts(check, run);
        }
        check.end();
    }

    private static void hurtTexts(Check check, int run) {
        Dice dice = new Dice(run + 1_000_000L);
        ShowRings program = new ShowRings();
        Model model = new Model();
        for (int i = 0; i < 4 && !check.hasWrong(); i++) {
            String text = dice.hurtText();
            byte[] bytes = Check.bytes(text);
            Check.feed(program, text);
            for (int k = 0; k < bytes.length; k += 20) {
                model.feed(Check.four(bytes, k / 4), Check.four(bytes, k / 4 + 1), Check.four(bytes, k / 4 + 2),
                        Check.four(bytes, k / 4 + 3), Check.four(bytes, k / 4 + 4));
            }
            model.back((20 - bytes.length % 20) % 20);
            check.due("read() of <" + text + ">", program.read(), model.read());
            check.due("place() of <" + text + ">", program.place(), model.place());
            check.due("count(4) of <" + text + ">", program.count(4), model.count(4));
        }
    }

    private void throwCalls() {
        if (dice.one(2)) {
            arrange();
        } else {
            throwText();
        }
        while (calls.size() < CALLS && !check.hasWrong()) {
            if (dice.one(arranged ? 250 : 60)) {
                throwText();
            } else {
                throwCall();
            }
        }
        if (check.hasWrong()) {
            calls.forEach(System.out::println);
        }
    }

    /** Shows with many entries, planned, under a mild text: what follows has winners, titles and clashes. */
    private void arrange() {
        arranged = true;
        int breeds = dice.between(1, 6);
        for (int b = 0; b < breeds; b++) {
            throwCall("breed");
        }
        int dogs = dice.between(4, 20);
        for (int d = 0; d < dogs; d++) {
            throwCall("dog");
        }
        for (int p = dice.between(1, 6); p > 0; p--) {
            ask("permits", dice.below(12), dice.one(2) ? 63 : dice.below(64));
        }
        throwCall("rings");
        tell(dice.mildText());
        int shows = dice.between(1, 5);
        for (int s = 0; s < shows; s++) {
            throwCall("show");
            for (int d = 0; d < dogs; d++) {
                if (!dice.one(5)) {
                    ask("enter", s, d);
                }
            }
            ask("plan", s, model.count(3));
            for (int what = 0; what < 4; what++) {
                ask("planned", s, dice.below(breeds), what);
            }
        }
    }

    private void throwText() {
        boolean tame = dice.one(2);
        String text = dice.one(6) ? dice.hurtText()
                : (tame ? "class 1 if age < 9; class 2 if 1 == 1;" : "") + dice.text(dice.below(tame ? 8 : 12));
        tell(text.length() > 2000 ? text.substring(0, 2000) : text);
    }

    private void tell(String text) {
        byte[] bytes = Check.bytes(text);
        for (int k = 0; k < bytes.length; k += 20) {
            ask("feed", Check.four(bytes, k / 4), Check.four(bytes, k / 4 + 1), Check.four(bytes, k / 4 + 2),
                    Check.four(bytes, k / 4 + 3), Check.four(bytes, k / 4 + 4));
        }
        ask("back", (20 - bytes.length % 20) % 20);
        ask("count", 6);
        ask("read");
        ask("place");
        ask("count", 4);
    }

    private void throwCall() {
        int[] weights = arranged ? ARRANGED_WEIGHTS : WEIGHTS;
        int all = Arrays.stream(weights).sum();
        int thrown = dice.below(all);
        int op = 0;
        while (thrown >= weights[op]) {
            thrown -= weights[op];
            op++;
        }
        throwCall(NAMES[op]);
    }

    private int wrongOr(int right, int size) {
        return dice.one(50) ? (dice.one(2) ? dice.between(-3, -1) : size + dice.below(3)) : right;
    }

    private int person() {
        return wrongOr(dice.one(2) ? dice.below(5) : dice.below(12), 12);
    }

    private int dog() {
        return wrongOr(dice.below(Math.max(1, model.count(1))), model.count(1));
    }

    private int breed() {
        return wrongOr(dice.below(Math.max(1, model.count(0))), model.count(0));
    }

    private int show() {
        return wrongOr(dice.below(Math.max(1, model.count(2))), model.count(2));
    }

    private int day() {
        return wrongOr(dice.between(0, lastDay), 10000);
    }

    private int known() {
        int all = model.count(3);
        return wrongOr(dice.one(2) ? all : dice.between(0, all), all + 1);
    }

    private void throwCall(String name) {
        switch (name) {
            case "back": ask(name, dice.between(-1, 2)); break;
            case "kin": ask(name, person(), person()); break;
            case "breed": ask(name, wrongOr(dice.below(3), 3), wrongOr(dice.between(1, 9), 10), wrongOr(dice.below(50), 100),
                    wrongOr(dice.between(45, 99), 100)); break;
            case "dog": ask(name, breed(), day(), wrongOr(dice.below(2), 2), person(), person()); break;
            case "permits": ask(name, person(), wrongOr(dice.one(3) ? 63 : dice.below(64), 64)); break;
            case "rings": ask(name, dice.one(9) ? dice.between(-1, 5) : dice.between(1, 3)); break;
            case "show": ask(name, lastDay == 45 ? dice.between(0, 6) + 8 * model.count(2) : day()); break;
            case "enter": case "classed": ask(name, show(), dog()); break;
            case "fact": throwFact(); break;
            case "owned": ask(name, dog(), person(), day()); break;
            case "plan": ask(name, show(), known()); break;
            case "planned": ask(name, show(), breed(), dice.between(-1, 4)); break;
            case "barred": ask(name, person(), show(), dog(), known()); break;
            case "clash": ask(name, show(), breed(), wrongOr(dice.below(60), 10000)); break;
            case "counts": case "points": ask(name, show(), dog(), known()); break;
            case "winner": ask(name, show(), breed(), known()); break;
            case "title": ask(name, dog(), known()); break;
            case "owner": ask(name, dog(), day(), known()); break;
            case "parted": ask(name, person(), dog(), day(), known()); break;
            case "changed": ask(name, show(), known(), known()); break;
            case "count": ask(name, dice.between(-1, 16)); break;
            default: ask(name);
        }
    }

    private void throwFact() {
        int kind = dice.one(60) ? dice.between(-1, 5) : dice.one(arranged ? 20 : 6) ? dice.between(1, 2) : dice.one(3) ? 3 : 0;
        int v = kind == 0 ? wrongOr(dice.between(1, dice.one(2) ? 20 : 4), 21)
                : kind == 3 ? wrongOr(dice.between(dice.one(3) ? 0 : 35, dice.one(3) ? 99 : 60), 100) : dice.one(40) ? 1 : 0;
        ask("fact", kind, show(), dog(), v);
    }

    private void ask(String name, int... some) {
        if (calls.size() >= CALLS) {
            return;
        }
        int[] numbers = Arrays.copyOf(some, 5);
        String call = name + Arrays.toString(some);
        calls.add(call);
        check.due("run " + run + " call " + calls.size() + " " + call,
                answer(program, name, numbers), answer(model, name, numbers));
    }

    /** A call by its name, with as many of the numbers as it takes; a boolean counts 1 or 0. */
    private static int answer(Object asked, String name, int[] numbers) {
        try {
            Method method = METHODS.computeIfAbsent(asked.getClass().getName() + "." + name, key -> find(asked, name));
            Object[] arguments = new Object[method.getParameterCount()];
            for (int i = 0; i < arguments.length; i++) {
                arguments[i] = numbers[i];
            }
            Object got = method.invoke(asked, arguments);
            return got instanceof Boolean ? ((Boolean) got ? 1 : 0) : (Integer) got;
        } catch (ReflectiveOperationException e) {
            throw new IllegalStateException(name, e);
        }
    }

    private static Method find(Object asked, String name) {
        for (Method method : asked.getClass().getDeclaredMethods()) {
            if (method.getName().equals(name) && !Modifier.isPrivate(method.getModifiers())) {
                return method;
            }
        }
        throw new IllegalStateException("no method " + name);
    }
}
