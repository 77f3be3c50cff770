/** Counts what is as due, and prints what is not. */
public final class Check {
    static final Class<?> ARGUMENT = IllegalArgumentException.class;
    static final Class<?> STATE = IllegalStateException.class;
    static final Class<?> INDEX = IndexOutOfBoundsException.class;
    static final Class<?> UNSUPPORTED = UnsupportedOperationException.class;
    static final Class<?> ELEMENT = java.util.NoSuchElementException.class;
    static final Class<?> ARITHMETIC = ArithmeticException.class;

    private int right = 0;
    private int wrong = 0;

    public interface Call {
        Object answer();
    }

    /** A weighhouse with a formula of these clauses. */
    static Proofweigh formula(int variables, int... clauses) {
        Proofweigh x = new Proofweigh();
        x.variables(variables);
        for (int clause : clauses) {
            x.add(clause);
        }
        return x;
    }

    /** Puts all clauses of the formula behind the lines. */
    static void putAll(Proofweigh x) {
        for (int clause = 0; clause < x.clauses(); clause++) {
            x.line(clause);
        }
    }

    /** What a call answers, or the class of the exception that it throws. */
    static Object answerOf(Call made) {
        try {
            return made.answer();
        } catch (RuntimeException thrown) {
            return thrown.getClass();
        }
    }

    /** Expects an answer, or, as a class of exceptions, that the call throws just this one. */
    void due(String call, Object due, Call made) {
        Object got = answerOf(made);
        if (due.equals(got)) {
            right++;
        } else {
            wrong++;
            System.out.println(call + " answered " + got + ", due is " + due);
        }
    }

    void end(String name) {
        System.out.println(name + ": " + right + " as due, " + wrong + " not");
        if (wrong != 0 || right == 0) {
            System.exit(1);
        }
    }
}
