/** Counts what is as due, and prints what is not. */
public final class Check {
    private int right = 0;
    private int wrong = 0;

    public interface Call {
        Object answer();
    }

    /** Expects an answer, or, as a class of exceptions, that the call throws just this one. */
    public void due(String call, Object due, Call made) {
        Object got;
        try {
            got = made.answer();
        } catch (RuntimeException thrown) {
            got = thrown.getClass();
        }
        if (due.equals(got)) {
            right++;
        } else {
            wrong++;
            System.out.println(call + " answered " + got + ", due is " + due);
        }
    }

    public void end(String name) {
        System.out.println(name + ": " + right + " as due, " + wrong + " not");
        if (wrong != 0 || right == 0) {
            System.exit(1);
        }
    }
}
