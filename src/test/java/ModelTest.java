import java.lang.reflect.InvocationTargetException;
import java.lang.reflect.Method;
import java.util.ArrayList;
import java.util.HashMap;
import java.util.List;
import java.util.Map;
import java.util.Random;

/** Random runs of calls, each answered by the class and by the plain model of the document. */
public final class ModelTest {
    private static final Expect expect = new Expect("ModelTest");
    private static final int RUNS = 2500;
    private static final Map<String, Method> REAL = methodsOf(OrderChains.class);
    private static final Map<String, Method> PLAIN = methodsOf(Machine.class);
    private static final String[] ACTIONS = {
        "poke", "order", "order", "order", "own", "start", "start", "stop", "run", "run", "run", "undo", "save",
        "restore"};
    private static final String[] QUESTIONS = {
        "about", "cell", "channel", "channel", "chain", "ends", "endOf", "later", "contested", "firstEdit", "alone",
        "runScript", "simulate"};
    private static final int[] STRANGE = {
        -1, -9, 3, 4, 10, 90, 91, 95, 96, 97, 99, 100, 500, 501, Integer.MIN_VALUE, Integer.MAX_VALUE};

    private final Random random;
    private final OrderChains real = new OrderChains();
    private final PlainModel plain = new PlainModel();
    private final List<String> told = new ArrayList<>();
    private boolean same = true;
    private int calls = 0;
    private int mostCalls = Engines.MOST_CALLS;

    private ModelTest(long seed) {
        random = new Random(seed);
    }

    public static void main(String[] args) {
        for (int seed = 0; seed < RUNS; seed++) {
            new ModelTest(seed).go();
        }
        expect.finish();
    }

    private static Map<String, Method> methodsOf(Class<?> type) {
        Map<String, Method> all = new HashMap<>();
        for (Method method : type.getDeclaredMethods()) {
            method.setAccessible(true);
            all.put(method.getName(), method);
        }
        return all;
    }

    /** Every second run is a short one, which leaves enough calls to compare everything at its end. */
    private void go() {
        boolean isShort = random.nextBoolean();
        int mostParts = isShort ? 4 : 30;
        mostCalls = isShort ? Engines.MOST_CALLS - Engines.CALLS_FOR_EVERYTHING : Engines.MOST_CALLS;
        if (random.nextInt(3) == 0) {
            typeText(mostParts);
        }
        while (calls < mostCalls && same) {
            int choice = random.nextInt(100);
            if (choice < 1) {
                typeText(mostParts);
            } else if (choice < 3) {
                call(pick(new String[] {"append", "clearText", "errorPosition", "load"}));
            } else if (choice < 50) {
                call(pick(ACTIONS));
            } else {
                call(pick(QUESTIONS));
            }
        }
        if (isShort) {
            mostCalls = Engines.MOST_CALLS;
            compareEverything();
        }
    }

    private void typeText(int mostParts) {
        ask("clearText");
        StringBuilder text = new StringBuilder("E");
        int parts = random.nextInt(mostParts);
        for (int k = 0; k < parts; k++) {
            text.append(part());
        }
        if (random.nextInt(2) == 0) {
            int at = random.nextInt(text.length());
            text.setCharAt(at, "E@os019/: ".charAt(random.nextInt(10)));
        }
        for (int i = 0; i < text.length(); i++) {
            ask("append", (int) text.charAt(i));
            if (random.nextInt(20) == 0) {
                ask("errorPosition");
            }
        }
        ask("errorPosition");
        ask("load");
    }

    private String part() {
        switch (random.nextInt(12)) {
            case 0:
                return "@" + Engines.twoDigits(random.nextInt(98));
            case 1:
                return "o" + random.nextInt(4);
            case 2:
                int head = random.nextInt(8) == 0 ? random.nextInt(98) : 6 * random.nextInt(10);
                return "s" + random.nextInt(3) + Engines.twoDigits(head);
            case 3:
                return "@9" + (4 + random.nextInt(2));
            default:
                return orderOfDigits();
        }
    }

    private String orderOfDigits() {
        if (random.nextInt(3) == 0) {
            return Engines.twoDigits(random.nextInt(100));
        }
        StringBuilder order = new StringBuilder("0");
        order.append(1 + random.nextInt(6));
        int[] values = {random.nextInt(97), random.nextInt(97), random.nextInt(6), random.nextInt(4),
            6 * random.nextInt(10)};
        for (int v : values) {
            order.append(Engines.twoDigits(v));
        }
        return order.toString();
    }

    private String pick(String[] names) {
        return names[random.nextInt(names.length)];
    }

    /** Calls a method with arguments that are mostly fine. */
    private void call(String name) {
        Class<?>[] types = REAL.get(name).getParameterTypes();
        Object[] arguments = new Object[types.length];
        for (int i = 0; i < types.length; i++) {
            if (types[i] == long.class) {
                arguments[i] = name.equals("simulate") ? random.nextLong() : 0L;
            } else {
                arguments[i] = random.nextInt(60) == 0 ? strange() : fine(name, i);
            }
        }
        if (name.equals("runScript")) {
            arguments[1] = script((int) arguments[0]);
        }
        ask(name, arguments);
    }

    private int strange() {
        return STRANGE[random.nextInt(STRANGE.length)];
    }

    private int fine(String name, int i) {
        switch (name) {
            case "append":
                return random.nextInt(256);
            case "about":
                return random.nextInt(10);
            case "cell":
                return i == 0 ? random.nextInt(96) : random.nextInt(4);
            case "channel":
                return i == 0 ? random.nextInt(3) : random.nextInt(8);
            case "chain":
                return i == 0 ? place() : random.nextInt(2);
            case "poke":
                return i == 0 ? random.nextInt(96) : random.nextInt(2) == 0 ? random.nextInt(8) : random.nextInt(100);
            case "order":
                return orderArgument(i);
            case "own":
                return i == 0 ? random.nextInt(96) : i == 1 ? 1 + random.nextInt(4) : random.nextInt(4);
            case "start":
                return i == 0 ? random.nextInt(3) : place();
            case "run":
                return random.nextInt(4) == 0 ? 1 + random.nextInt(99) : 1 + random.nextInt(6);
            case "later":
                return i == 0 ? random.nextInt(96) : random.nextInt(501);
            case "contested":
                return random.nextInt(501);
            case "runScript":
                return 1 + random.nextInt(3);
            case "simulate":
                return 1 + random.nextInt(50);
            case "save":
            case "restore":
                return random.nextInt(2);
            default:
                return random.nextInt(3);
        }
    }

    private int place() {
        return random.nextInt(5) == 0 ? random.nextInt(96) : 6 * random.nextInt(8);
    }

    private int orderArgument(int i) {
        if (i == 0) {
            return place();
        }
        if (i == 1) {
            return random.nextInt(12) == 0 ? random.nextInt(100) : 1 + random.nextInt(6);
        }
        if (i == 4) {
            return random.nextInt(8) == 0 ? random.nextInt(100) : random.nextInt(9);
        }
        return random.nextInt(8) == 0 ? random.nextInt(100) : random.nextInt(60);
    }

    private long script(int n) {
        if (random.nextInt(20) == 0) {
            return random.nextLong() >> random.nextInt(64);
        }
        long all = 0;
        for (int k = 0; k < n && k < 3; k++) {
            all = all * 100000 + group();
        }
        return all;
    }

    private int group() {
        int command = 1 + random.nextInt(9);
        int c = random.nextInt(98);
        int h = random.nextInt(4);
        int spoiled = random.nextInt(12) == 0 ? (int) Math.pow(10, random.nextInt(5)) : 0;
        switch (command) {
            case 1:
                return 10000 + 100 * c + random.nextInt(100);
            case 2:
                return 20000 + random.nextInt(100) + spoiled;
            case 3:
                return 30000 + 1000 * h + 10 * random.nextInt(98) + spoiled % 10;
            case 4:
                return 40000 + 1000 * h + spoiled % 1000;
            case 5:
                return 50000 + 100 * c + 10 * random.nextInt(5) + random.nextInt(10);
            case 6:
                return 60000 + 100 * c + (c < 96 && random.nextInt(4) > 0 ? plain.cell(c, 0) : random.nextInt(100));
            case 7:
                return 70000 + 1000 * h + random.nextInt(5) + spoiled % 1000;
            case 8:
                return 80000 + 1000 * h + random.nextInt(12) + spoiled % 1000;
            default:
                return 90000 + random.nextInt(20) + spoiled % 10000;
        }
    }

    private void ask(String name, Object... arguments) {
        if (!same || calls >= mostCalls) {
            return;
        }
        calls++;
        String got = answer(REAL.get(name), real, arguments);
        String due = answer(PLAIN.get(name), plain, arguments);
        told.add(name + List.of(arguments) + " answered " + got);
        expect.that("answers", 0, 0);
        if (!got.equals(due)) {
            same = false;
            expect.complain("due is " + due + " in the last row of: " + String.join("; ", told));
        }
    }

    private static String answer(Method method, Object machine, Object[] arguments) {
        try {
            return String.valueOf(method.invoke(machine, arguments));
        } catch (InvocationTargetException e) {
            return "throws." + e.getCause().getClass().getSimpleName();
        } catch (IllegalAccessException e) {
            throw new IllegalStateException(e);
        }
    }

    private void compareEverything() {
        for (int what = 0; what < 10; what++) {
            ask("about", what);
        }
        for (int h = 0; h < 3; h++) {
            for (int what = 0; what < 8; what++) {
                ask("channel", h, what);
            }
        }
        for (int c = 0; c < 96; c++) {
            for (int what = 0; what < 4; what++) {
                ask("cell", c, what);
            }
        }
    }
}
