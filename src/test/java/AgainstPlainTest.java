import java.lang.reflect.InvocationTargetException;
import java.lang.reflect.Method;
import java.util.Arrays;
import java.util.HashMap;
import java.util.Map;
import java.util.Random;

/** Makes long runs of drawn calls on the program and on the plain one: each answer must be the same. */
public final class AgainstPlainTest {
    private static final int CALLS = 500;
    private static final String[] BUILD = {"variables", "holes", "ring", "stair", "chance", "chance", "lift"};
    private static final String[] GROW = {
        "add", "add", "add", "line", "line", "line", "line", "line", "resolve", "resolve", "resolve", "resolve",
        "resolve", "resolve", "plane", "bound", "sum", "sum", "divide", "side", "side", "lemma", "lemma", "quantor"
    };
    private static final String[] TELL = {
        "clause", "clauses", "model", "models", "broken", "lineAt", "proof", "proof", "isTree", "isRegular",
        "unfolded", "space", "planeAt", "refutes", "toPlanes", "planes", "term", "between", "between", "follows",
        "holds", "strategy", "strategy", "neededShare", "meanWidth"
    };
    private static final String[] SEARCH = {
        "treeSize", "treeDepth", "treeWeight", "ask", "width", "saturated", "pebbles", "staticDegree", "degree",
        "isTrue"
    };

    private final Random random;
    private final Map<String, Method> ours = methodsOf(Proofweigh.class);
    private final Map<String, Method> plains = methodsOf(PlainWeigher.class);
    private final Map<String, Integer> tally = new HashMap<>();
    private Proofweigh our;
    private PlainWeigher plain;

    private AgainstPlainTest(long seed) {
        random = new Random(seed);
    }

    public static void main(String[] args) {
        int runs = args.length > 0 ? Integer.parseInt(args[0]) : 150;
        long seed = args.length > 1 ? Long.parseLong(args[1]) : 1L;
        AgainstPlainTest test = new AgainstPlainTest(seed);
        for (int run = 0; run < runs; run++) {
            test.run(run);
            test.formulaRun(run);
            test.proofRun(run);
        }
        if (args.length > 2) {
            test.tally.entrySet().stream().sorted(Map.Entry.comparingByKey()).forEach(System.out::println);
        }
        System.out.println("AgainstPlainTest: " + runs + " runs of drawn calls, of formulas and of proofs are the same");
    }

    private static Map<String, Method> methodsOf(Class<?> type) {
        Map<String, Method> methods = new HashMap<>();
        for (Method method : type.getDeclaredMethods()) {
            if (java.lang.reflect.Modifier.isPublic(method.getModifiers())) {
                methods.put(method.getName(), method);
            }
        }
        return methods;
    }

    private void run(int run) {
        our = new Proofweigh();
        plain = new PlainWeigher();
        // Few variables make many proofs that end; many make the searches wide.
        int most = run % 3 == 0 ? 6 : run % 3 == 1 ? 3 : 2;
        int many = 0;
        while (many < CALLS) {
            int kind = random.nextInt(1000);
            String name;
            if (kind < 12 || many == 0) {
                name = pick(BUILD);
            } else if (kind < 16) {
                name = random.nextInt(4) == 0 ? "clear" : "cut";
            } else if (kind < (most > 3 ? 600 : 700)) {
                name = pick(GROW);
            } else if (kind < (most > 3 ? 985 : 930)) {
                name = pick(TELL);
            } else {
                name = pick(SEARCH);
            }
            call(run, name, argumentsOf(name, most));
            many++;
        }
    }

    /** Draws a formula that no values keep, and looks for all least ones. */
    private void formulaRun(int run) {
        our = new Proofweigh();
        plain = new PlainWeigher();
        for (int round = 0; round < 6; round++) {
            int n = 1 + random.nextInt(random.nextInt(8) == 0 ? 6 : 4);
            drawContradiction(run, n);
            for (String name : SEARCH) {
                if (name.endsWith("egree")) {
                    for (int prime : new int[] {2, 3, 5, 7}) {
                        call(run, name, prime);
                    }
                } else if (name.equals("ask")) {
                    for (int trial = 0; trial < 5; trial++) {
                        call(run, name, fewAnswers(n));
                    }
                } else if (name.equals("saturated")) {
                    call(run, name, random.nextInt(7));
                } else {
                    call(run, name);
                }
            }
        }
    }

    private void drawContradiction(int run, int n) {
        call(run, "variables", n);
        int most = 1 + random.nextInt(Math.min(n, 3));
        while (plain.clauses() < 32 && plain.models() > 0) {
            int[] digits = new int[n];
            for (int literal = 0; literal < most; literal++) {
                digits[random.nextInt(n)] = 1 + random.nextInt(2);
            }
            int code = 0;
            for (int v = 0; v < n; v++) {
                code += digits[v] * (int) Math.pow(3, v);
            }
            call(run, "add", code);
        }
    }

    private int fewAnswers(int n) {
        int code = 0;
        for (int v = 0; v < n; v++) {
            code += (random.nextInt(3) == 0 ? 1 + random.nextInt(2) : 0) * (int) Math.pow(3, v);
        }
        return code;
    }

    /** Draws a proof that ends, and tells all that can be told of it. */
    private void proofRun(int run) {
        our = new Proofweigh();
        plain = new PlainWeigher();
        for (int round = 0; round < 12; round++) {
            int n = 2 + random.nextInt(3);
            drawContradiction(run, n);
            for (int clause = 0; clause < plain.clauses() && clause < 20; clause++) {
                call(run, "line", random.nextInt(6) == 0 ? random.nextInt(plain.clauses()) : clause);
            }
            for (int step = 0; step < 60 && !hasEnd(); step++) {
                call(run, "resolve", resolveArguments(n, plain.manyLines()));
            }
            for (String name : new String[] {"isTree", "isRegular", "unfolded", "space", "neededShare", "toPlanes"}) {
                call(run, name);
            }
            for (char what : "swde".toCharArray()) {
                call(run, "proof", what);
            }
            for (int trial = 0; trial < 4; trial++) {
                for (int clause = 0; clause < plain.clauses(); clause++) {
                    call(run, "side", clause, random.nextInt(2));
                }
                call(run, "between");
            }
            for (int plane = 0; plane < plain.planes(); plane++) {
                call(run, "refutes", plane);
                for (int variable = -1; variable < n; variable++) {
                    call(run, "planeAt", plane, variable);
                }
            }
            call(run, "isTrue");
        }
    }

    private boolean hasEnd() {
        for (int line = 0; line < plain.manyLines(); line++) {
            if (plain.lineAt(line) == 0) {
                return true;
            }
        }
        return false;
    }

    private String pick(String[] names) {
        return names[random.nextInt(names.length)];
    }

    private void call(int run, String name, Object... arguments) {
        Object got = answer(ours.get(name), our, arguments);
        Object due = answer(plains.get(name), plain, arguments);
        tally.merge(name + " " + (due instanceof Class<?> thrown ? thrown.getSimpleName() : "answers"), 1,
                Integer::sum);
        if (!due.equals(got)) {
            System.out.println("run " + run + ": " + name + Arrays.toString(arguments) + " answered " + got
                    + ", the plain one " + due);
            System.exit(1);
        }
    }

    private static Object answer(Method method, Object on, Object[] arguments) {
        try {
            return method.invoke(on, arguments);
        } catch (InvocationTargetException thrown) {
            return thrown.getCause().getClass();
        } catch (IllegalAccessException never) {
            throw new AssertionError(never);
        }
    }

    /** A number from least to most, now and then one beyond, or a great one. */
    private int near(int least, int most) {
        int kind = random.nextInt(60);
        if (kind == 0) {
            return least - 1;
        }
        if (kind == 1) {
            return most + 1;
        }
        if (kind == 2) {
            return random.nextInt();
        }
        return most < least ? least : least + random.nextInt(most - least + 1);
    }

    private Object[] argumentsOf(String name, int most) {
        int n = plain.manyVariables();
        int codes = (int) Math.pow(3, n);
        int values = 1 << n;
        int clauses = plain.clauses();
        int lines = plain.manyLines();
        int planes = plain.planes();
        switch (name) {
            case "variables":
                return with(near(1, most));
            case "add":
                return with(random.nextInt(5) == 0 ? near(0, Math.min(codes, 9) - 1) : near(0, codes - 1));
            case "lemma", "follows", "ask":
                return with(near(0, codes - 1));
            case "clause", "line", "plane":
                return with(near(0, clauses - 1));
            case "holes":
                int[] sizes = {1, 1, 2, 1, 1, 2, 2, 2, 3, 2, 3, 1, 6, 1, 2, 3, 1, 6};
                int which = 2 * random.nextInt(most > 3 ? 9 : 3);
                return with(near(sizes[which], sizes[which]), near(sizes[which + 1], sizes[which + 1]));
            case "ring":
                return with(near(3, Math.max(3, most)));
            case "stair":
                return with(near(1, most));
            case "chance":
                return with(near(1, most), near(1, random.nextInt(3) == 0 ? 8 : 32), random.nextInt());
            case "broken":
                return with(near(0, values - 1));
            case "resolve":
                return resolveArguments(n, lines);
            case "cut", "lineAt":
                return with(near(0, lines - 1));
            case "proof":
                return with("swdeswdeswdex".charAt(random.nextInt(13)));
            case "saturated":
                return with(near(0, 6));
            case "bound":
                return with(near(0, n - 1), random.nextBoolean());
            case "sum":
                return with(near(0, planes - 1), near(1, 9), near(0, planes - 1), near(1, 9));
            case "divide":
                return with(near(0, planes - 1), random.nextInt(4) == 0 ? near(2, 99) : near(2, 4));
            case "planeAt":
                return with(near(0, planes - 1), near(-1, n - 1));
            case "refutes":
                return with(near(0, planes - 1));
            case "term":
                return with(near(0, clauses - 1), prime(), near(0, values - 1));
            case "staticDegree", "degree":
                return with(prime());
            case "side":
                return with(near(0, clauses - 1), near(0, 1));
            case "quantor":
                return with(near(0, n - 1), "aeaeaeaeax".charAt(random.nextInt(10)));
            case "strategy":
                return with(near(0, n - 1), near(0, values - 1));
            default:
                return with();
        }
    }

    private int prime() {
        int[] primes = {2, 3, 5, 7, 2, 3, 5, 7, 2, 3, 5, 7, 4};
        return primes[random.nextInt(primes.length)];
    }

    private static Object[] with(Object... arguments) {
        return arguments;
    }

    /** Mostly lines that have a resolvent, those at the end rather than those at the start. */
    private Object[] resolveArguments(int n, int lines) {
        for (int trial = 0; trial < 60 && lines > 1 && random.nextInt(40) != 0; trial++) {
            int one = lines - 1 - random.nextInt(random.nextInt(lines) + 1);
            int two = lines - 1 - random.nextInt(random.nextInt(lines) + 1);
            int variable = random.nextInt(n);
            if (plain.canResolve(one, two, variable)) {
                return with(one, two, variable);
            }
        }
        return with(near(0, lines - 1), near(0, lines - 1), near(0, n - 1));
    }
}
