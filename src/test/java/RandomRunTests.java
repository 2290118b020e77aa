import java.lang.reflect.Method;
import java.util.Arrays;

/** Runs of 512 calls by lot, each answer compared with that of the Oracle. */
public final class RandomRunTests {
    private static final int RUNS = 1500, CALLS = 512;
    private static final int[] ODD_NUMBERS = {Integer.MIN_VALUE, -100, -3, -2, -1, 10, 41, 100, 1000, Integer.MAX_VALUE,
        Integer.MAX_VALUE - 1};
    private static final String[] PIECES = {"depth", "asked", "loud", "topic", "round", "who", "or", "and", "not", "weight",
        "points", "hires", "(", ")", ";", "+", "-", "*", "<", "=", " ", "\n", "0", "7", "99", "9999", "12345", "x", "A",
        "notdepth", "\u00e9", "\t", "- -", "not not", "((", "65536 "};

    private long state;

    private RandomRunTests(long seed) {
        state = seed * 7919 + 12345;
    }

    private int below(int bound) {
        state = state * 6364136223846793005L + 1442695040888963407L;
        return (int) Long.remainderUnsigned(state >>> 33, bound);
    }

    private int from(int least, int most) {
        return least + below(most - least + 1);
    }

    /** Mostly a number that may stand, now and then one that may not. */
    private int mostly(int least, int most) {
        int lot = below(60);
        if (lot == 0) return ODD_NUMBERS[below(ODD_NUMBERS.length)];
        if (lot == 1) return least - 1;
        if (lot == 2) return most + 1;
        return from(least, most);
    }

    private String expression(int depth) {
        switch (below(depth > 3 ? 3 : 13)) {
            case 0: return String.valueOf(below(below(4) == 0 ? 10000 : 12));
            case 1: case 2: case 3: return PIECES[below(6)];
            case 4: return "(" + expression(depth + 1) + ")";
            case 5: return "-" + expression(depth + 2);
            case 6: return "not " + expression(depth + 1);
            case 7: return expression(depth + 1) + " or " + expression(depth + 1);
            case 8: return expression(depth + 1) + " and " + expression(depth + 1);
            case 9: return expression(depth + 1) + (below(2) == 0 ? "<" : "=") + expression(depth + 1);
            case 10: return expression(depth + 1) + " - " + expression(depth + 1);
            case 11: return expression(depth + 1) + "+\n" + expression(depth + 1);
            default: return expression(depth + 1) + "*" + expression(depth + 1);
        }
    }

    private String lawText() {
        String points = below(3) == 0 ? expression(1) : "asked + round * " + below(9);
        String hires = below(2) == 0 ? expression(1) : "loud + topic * depth";
        String text = "weight " + expression(0) + " ; points " + points + ";hires " + hires + " ;";
        if (below(3) == 0) {
            int at = below(text.length() + 1);
            int gap = below(3) == 0 ? at : Math.min(text.length(), at + below(3));
            text = text.substring(0, at) + PIECES[below(PIECES.length)] + text.substring(gap);
        }
        if (below(12) == 0) text = text.substring(0, below(text.length() + 1));
        return text;
    }

    private int[] argumentsOf(String name) {
        int t = mostly(0, 2);
        int p = mostly(0, 6);
        int q = mostly(0, 7);
        int s = mostly(0, 3);
        int half = mostly(0, 1);
        int topic = mostly(0, 3);
        switch (name) {
            case "count": return new int[] {mostly(0, 4)};
            case "feed": return new int[] {mostly(1, 5), mostly(0, 255), mostly(32, 122), mostly(32, 122), mostly(0, 255),
                mostly(0, 255)};
            case "force": return new int[] {mostly(0, 5)};
            case "asks": return new int[] {mostly(0, 2), mostly(0, 99), mostly(0, 99), mostly(0, 39), mostly(0, 6)};
            case "come": return new int[] {mostly(0, 59), mostly(0, 20), mostly(-1, 2)};
            case "learn": return new int[] {p, topic, mostly(0, 9)};
            case "sit": return new int[] {p, mostly(-1, 2)};
            case "told": return new int[] {p, mostly(0, 7)};
            case "question": return new int[] {topic, mostly(0, 9)};
            case "askedOf": return new int[] {q, half};
            case "lay": return new int[] {t, mostly(-1, 7)};
            case "laid": return new int[] {t};
            case "answer": return new int[] {t, q, mostly(0, 2)};
            case "score": return new int[] {t, mostly(0, 2)};
            case "evening": case "cover": case "change": return new int[] {half};
            case "best": case "join": case "leave": return new int[] {t, half};
            case "hire": return new int[] {t, below(2) == 0 ? mostly(0, 999) : mostly(0, 20), half};
            case "price": return new int[] {p};
            case "close": return new int[] {mostly(0, 8), half};
            case "good": return new int[] {q};
            case "alike": return new int[] {t, mostly(0, 2), half};
            case "judge": case "laws": case "film": return new int[] {s, t};
            case "whose": return new int[] {s};
            case "depth": return new int[] {s, p, topic};
            case "drawn": return new int[] {mostly(0, 99999)};
            case "odds": return new int[] {below(2) == 0 ? mostly(0, 99999) : mostly(99970, 99999), mostly(1, 30), t, half};
            case "sheet": return new int[] {s, mostly(-1, 2), below(2) == 0 ? mostly(0, 40) : mostly(0, 8)};
            case "cell": return new int[] {s, mostly(0, 40), below(3) == 0 ? from(-70000, 70000) : mostly(0, 8)};
            case "copy": return new int[] {s, mostly(0, 12), mostly(0, 3), mostly(0, 12), mostly(0, 10)};
            case "depthsBy": return new int[] {s, mostly(0, 2), mostly(0, 12), mostly(0, 12)};
            case "taken": return new int[] {mostly(0, 14), mostly(0, 6)};
            default: return new int[0];
        }
    }

    /** Calls that end what stands come seldom. */
    private static boolean isFor(String name, int lot) {
        if (name.equals("text")) return lot < 2;
        if (name.equals("back")) return lot < 15;
        if (name.equals("feed") || name.equals("sheet")) return lot < 30;
        return true;
    }

    private final Checks checks = new Checks("random runs");

    private void run(int number, Method[] methods) throws ReflectiveOperationException {
        QuestionsInAnInn inn = new QuestionsInAnInn();
        Oracle oracle = new Oracle();
        int calls = below(3) == 0 ? layRows(number, methods, inn, oracle) : 0;
        while (calls < CALLS) {
            if (below(40) == 0) {
                calls += readLaw(number, inn, oracle);
                continue;
            }
            Method method = methods[below(methods.length)];
            if (calls < 40) method = early(methods, method);
            if (!isFor(method.getName(), below(100))) continue;
            compare(number, method, inn, oracle, argumentsOf(method.getName()));
            calls++;
            if (method.getName().equals("film")) calls += askTold(number, methods, inn, oracle);
        }
    }

    private int layRows(int number, Method[] methods, QuestionsInAnInn inn, Oracle oracle)
        throws ReflectiveOperationException {
        int sort = from(0, 2);
        for (int s = 0; s < 4; s++) {
            int own = below(4) == 0 ? from(0, 2) : sort;
            compare(number, named(methods, "sheet"), inn, oracle, new int[] {s, own, from(6, 20)});
        }
        return 4;
    }

    private static Method named(Method[] methods, String name) {
        return Arrays.stream(methods).filter(m -> m.getName().equals(name)).findFirst().orElseThrow();
    }

    private Method early(Method[] methods, Method other) {
        switch (below(5)) {
            case 0: return named(methods, "come");
            case 1: return named(methods, "learn");
            case 2: return named(methods, "question");
            case 3: return below(3) == 0 ? named(methods, "lay") : other;
            default: return other;
        }
    }

    /** A sheet that has just been filmed is asked for at once, perhaps changed by one cell. */
    private int askTold(int number, Method[] methods, QuestionsInAnInn inn, Oracle oracle)
        throws ReflectiveOperationException {
        int calls = 0;
        for (String name : new String[] {"cell", "judge", "whose", "depth", "laws"}) {
            if (below(2) == 0) continue;
            compare(number, named(methods, name), inn, oracle, argumentsOf(name));
            calls++;
        }
        return calls;
    }

    private int readLaw(int number, QuestionsInAnInn inn, Oracle oracle) {
        String text = lawText();
        int calls = 0;
        for (int i = 0; i < text.length(); i += 5) {
            int[] five = new int[5];
            for (int k = 0; k < 5; k++) five[k] = i + k < text.length() ? text.charAt(i + k) : 0;
            int n = Math.min(5, text.length() - i);
            checks.due("run " + number + ", feed", inn.feed(n, five[0], five[1], five[2], five[3], five[4]),
                oracle.feed(n, five[0], five[1], five[2], five[3], five[4]));
            calls++;
        }
        int got = inn.text();
        checks.due("run " + number + ", text() of " + text, got, oracle.text());
        if (got > 0) checks.due("run " + number + ", force", inn.force(got), oracle.force(got));
        return calls + 2;
    }

    private void compare(int number, Method method, QuestionsInAnInn inn, Oracle oracle, int[] arguments)
        throws ReflectiveOperationException {
        Object[] boxed = Arrays.stream(arguments).boxed().toArray();
        long got = ((Number) method.invoke(inn, boxed)).longValue();
        Method same = Oracle.class.getMethod(method.getName(), method.getParameterTypes());
        long want = ((Number) same.invoke(oracle, boxed)).longValue();
        checks.due("run " + number + ", " + method.getName() + Arrays.toString(arguments), got, want);
        answered(method.getName(), got);
    }

    private final java.util.TreeMap<String, java.util.TreeMap<Long, Integer>> seen = new java.util.TreeMap<>();

    private void answered(String name, long got) {
        seen.computeIfAbsent(name, n -> new java.util.TreeMap<>()).merge(got, 1, Integer::sum);
    }

    public static void main(String[] args) throws ReflectiveOperationException {
        Method[] methods = QuestionsInAnInn.class.getDeclaredMethods();
        methods = Arrays.stream(methods).filter(m -> java.lang.reflect.Modifier.isPublic(m.getModifiers()))
            .sorted(java.util.Comparator.comparing(Method::getName)).toArray(Method[]::new);
        int runs = args.length > 0 ? Integer.parseInt(args[0]) : RUNS;
        RandomRunTests tests = new RandomRunTests(args.length > 1 ? Long.parseLong(args[1]) : 1);
        for (int run = 0; run < runs; run++) tests.run(run, methods);
        if (args.length > 2) tests.seen.forEach((name, answers) -> System.out.println(name + " " + answers));
        tests.checks.end();
    }
}
