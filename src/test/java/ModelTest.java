import java.lang.reflect.InvocationTargetException;
import java.lang.reflect.Method;
import java.util.ArrayList;
import java.util.Arrays;
import java.util.List;
import java.util.Random;

/** All promises: the same made-up runs of calls on a PostShares and on the Model must be answered alike. */
final class ModelTest {
    private static final int RUNS = 250;
    private static final String BYTES = "=%+:;,!0123456789abcdefghijklmx";
    private static final String[] SINGLE = {
        "reads", "reason", "lot", "party", "worth", "turn", "rates", "strength", "rule", "binds", "joins",
        "takes", "takes", "takes", "takes", "takes", "takes", "vetoes", "vetoes", "vetoes", "vetoes",
        "foreseen", "best", "against", "taking", "course", "sincere", "without", "back", "back", "told", "digest",
        "type", "clear", "best", "against", "taking", "foreseen",
    };

    private final Random random;
    private final PostShares shares = new PostShares();
    private final Model model = new Model();
    private final List<String> log = new ArrayList<>();
    private final int most;
    private int calls = 0;

    private ModelTest(int seed) {
        random = new Random(seed);
        most = 150 + random.nextInt(350);
    }

    public static void main(String[] args) throws ReflectiveOperationException {
        for (int seed = 0; seed < RUNS; seed++) {
            new ModelTest(seed).run();
        }
        Desk.end();
    }

    private void run() throws ReflectiveOperationException {
        while (calls < most) {
            int kind = random.nextInt(100);
            if (calls == 0 || kind < 1) {
                tellSomething();
            } else if (kind < 2) {
                everyQuestion();
            } else {
                single(SINGLE[random.nextInt(SINGLE.length)]);
            }
        }
        call("digest");
    }

    private void tellSomething() throws ReflectiveOperationException {
        String text = someText();
        if (random.nextInt(3) == 0) {
            text = spoilt(text);
        }
        call("clear");
        for (int i = 0; i < text.length(); i++) {
            call("type", text.charAt(i));
        }
        call("reads");
        for (int what = 0; what < 4; what++) {
            call("reason", what);
        }
    }

    private String someText() {
        int lots = random.nextInt(7);
        int parties = random.nextInt(5);
        int top = random.nextBoolean() ? 5 : 100;
        int strengthTop = random.nextBoolean() ? 5 : 999;
        StringBuilder text = new StringBuilder();
        List<Character> posts = new ArrayList<>();
        for (char c = 'a'; c <= 'l'; c++) {
            posts.add(c);
        }
        for (int k = 0; k < lots; k++) {
            text.append('=');
            for (int n = random.nextInt(2); n >= 0; n--) {
                text.append(posts.remove(random.nextInt(posts.size())).charValue());
            }
            text.append(';');
        }
        if (random.nextBoolean()) {
            text.append('%').append("00".substring(random.nextInt(3))).append(random.nextInt(5)).append(';');
        }
        for (int p = 0; p < parties; p++) {
            text.append('+').append(1 + random.nextInt(strengthTop)).append(':');
            for (int k = 0; k < lots; k++) {
                text.append(k > 0 ? "," : "").append(random.nextInt(top));
            }
            text.append(random.nextInt(4) > 0 ? "!;" : ";");
        }
        return text.toString();
    }

    private String spoilt(String text) {
        StringBuilder spoilt = new StringBuilder(text);
        int at = random.nextInt(text.length() + 1);
        char c = BYTES.charAt(random.nextInt(BYTES.length()));
        switch (random.nextInt(4)) {
            case 0:
                spoilt.insert(at, c);
                break;
            case 1:
                spoilt.setLength(at);
                break;
            case 2:
                spoilt.delete(at, at + 1);
                break;
            default:
                spoilt.replace(at, at + 1, String.valueOf(c));
                break;
        }
        return spoilt.toString();
    }

    private void everyQuestion() throws ReflectiveOperationException {
        for (int p = 0; p < 5; p++) {
            call("foreseen", p);
            call("sincere", p);
            for (int what = 0; what < 3; what++) {
                call("without", p, what);
            }
        }
        for (int k = 0; k < 7; k++) {
            call("against", k);
            call("taking", k, random.nextInt(4));
        }
        for (int i = 0; i < 11; i++) {
            call("course", i);
        }
    }

    private void single(String name) throws ReflectiveOperationException {
        switch (name) {
            case "reads", "clear", "best", "back", "digest" -> call(name);
            case "type" -> call(name, random.nextInt(140) - 5);
            case "reason" -> call(name, some(4));
            case "lot" -> call(name, some(6), some(4));
            case "party" -> call(name, some(4), some(6));
            case "worth" -> call(name, some(4), some(6));
            case "turn" -> call(name, some(7));
            case "rates" -> call(name, some(4), some(6), random.nextBoolean() ? some(4) : some(100));
            case "strength" -> call(name, some(4), random.nextBoolean() ? some(5) : some(1000));
            case "rule" -> call(name, some(5));
            case "binds", "takes", "against" -> call(name, name.equals("binds") ? two(6) : one(6));
            case "joins" -> call(name, two(4));
            case "vetoes", "foreseen", "sincere" -> call(name, some(4));
            case "taking" -> call(name, some(6), some(4));
            case "course" -> call(name, some(11));
            case "without" -> call(name, some(4), some(3));
            default -> call(name, some(10));
        }
    }

    private int[] one(int n) {
        return new int[] {some(n)};
    }

    private int[] two(int n) {
        return new int[] {some(n), some(n)};
    }

    /** Mostly 0 .. n - 1; now and then just or far outside. */
    private int some(int n) {
        int kind = random.nextInt(60);
        return kind == 0 ? -1 : kind == 1 ? n : kind == 2 ? Integer.MAX_VALUE : kind == 3 ? Integer.MIN_VALUE
            : random.nextInt(n);
    }

    private void call(String name, int... arguments) throws ReflectiveOperationException {
        calls++;
        log.add(name + Arrays.toString(arguments));
        Object got = answer(shares, name, arguments);
        Object want = answer(model, name, arguments);
        if (!got.equals(want)) {
            System.out.println(log);
        }
        Desk.check("call " + calls, got, want);
    }

    private static Object answer(Object on, String name, int[] arguments) throws ReflectiveOperationException {
        Class<?>[] types = new Class<?>[arguments.length];
        Object[] values = new Object[arguments.length];
        for (int i = 0; i < arguments.length; i++) {
            types[i] = int.class;
            values[i] = arguments[i];
        }
        Method method = on.getClass().getDeclaredMethod(name, types);
        try {
            return method.invoke(on, values);
        } catch (InvocationTargetException e) {
            e.getCause().printStackTrace(System.out);
            return "an exception: " + e.getCause();
        }
    }
}
