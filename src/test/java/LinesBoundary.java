/** The boundaries of the promises 15 to 23: proofs line by line. */
final class LinesBoundary {
    private static final Class<?> ARGUMENT = Check.ARGUMENT;
    private static final Class<?> STATE = Check.STATE;
    private static final Class<?> INDEX = Check.INDEX;
    private static final Class<?> UNSUPPORTED = Check.UNSUPPORTED;
    private static final Class<?> ELEMENT = Check.ELEMENT;

    private LinesBoundary() {}

    static void check(Boundary b) {
        line(b);
        resolve(b);
        resolveRefused(b);
        cut(b);
        lineAt(b);
        proof(b);
        trees(b);
        regular(b);
        unfolded(b);
        space(b);
    }

    /** Expects that a call wants an end of the proof. */
    static void wantsEnd(Boundary b, int promise, String call, Boundary.On on) {
        b.sentence(promise, "NoSuchElementException if no line is the empty clause");
        b.refused(ELEMENT, call + " of nothing", States::empty, on);
        b.refused(ELEMENT, call + " of the empty clause that is no line", () -> Check.formula(1, 0), on);
        b.refused(ELEMENT, call + " of lines without an end", States::wide, on);
        b.refused(ELEMENT, call + " of 40 lines without an end", States::fullOfLines, on);
        b.refused(ELEMENT, call + " of an end that was cut", () -> cutTo(States.mixed(), 7), on);
        b.refused(ELEMENT, call + " of an end that was cleared", () -> {
            Proofweigh x = States.ended();
            x.clear();
            return x;
        }, on);
    }

    private static Proofweigh cutTo(Proofweigh x, int line) {
        x.cut(line);
        return x;
    }

    /**
     * From x0 to x1 and back, step by step, and then to the empty clause.
     *
     * <p>There are as many lines as steps and 6 more; from two steps on just one of them is not needed.
     */
    static Proofweigh walk(int steps) {
        Proofweigh x = Check.formula(2, 1, 2 + 3, 1 + 6, 6, 2);
        Check.putAll(x);
        int last = 0;
        for (int step = 0; step < steps; step++) {
            last = x.resolve(last, 1 + step % 2, step % 2);
        }
        x.resolve(last, steps % 2 == 0 ? 4 : 3, steps % 2);
        return x;
    }

    /** From x0 to x2 and back, each time by two that use it, and then to the empty clause: 7 lines and 3 for each time. */
    static Proofweigh doubled(int times) {
        int last18or2 = times % 2 == 0 ? 2 : 18;
        Proofweigh x = Check.formula(3, 1, 14, 17, 22, 25, last18or2);
        Check.putAll(x);
        int last = 0;
        for (int time = 0; time < times; time++) {
            int variable = time % 2 == 0 ? 0 : 2;
            int first = time % 2 == 0 ? 1 : 3;
            int one = x.resolve(last, first, variable);
            int two = x.resolve(last, first + 1, variable);
            last = x.resolve(one, two, 1);
        }
        x.resolve(last, 5, times % 2 == 0 ? 0 : 2);
        return x;
    }

    private static void line(Boundary b) {
        b.sentence(15, "clause: the number of the clause in the formula");
        b.allowed(0, "line(0)", States::contrary, x -> x.line(0));
        b.allowed(0, "line(1)", States::contrary, x -> x.line(1));
        b.allowed(0, "line(31)", () -> States.fullOfClauses(6), x -> x.line(31));
        b.allowed(2, "lineAt(0) of line(1)", States::contrary, x -> x.line(1) + x.lineAt(0));
        b.allowed(0, "line(0) of the empty clause", () -> Check.formula(1, 0), x -> x.line(0) + x.lineAt(0) + x.proof('e'));
        b.sentence(15, "IndexOutOfBoundsException if there is no such clause");
        b.refused(INDEX, "line(0) of nothing", States::empty, x -> x.line(0));
        b.refusedBeyond(0, 4, INDEX, "line(#)", States::mixed, (x, k) -> x.line(k));
        b.refusedBeyond(0, 31, INDEX, "line(#)", () -> States.fullOfClauses(1), (x, k) -> x.line(k));
        b.sentence(15, "IllegalStateException if there are 40");
        b.allowed(39, "line(2) when there are 39", () -> States.linesLeft(1), x -> x.line(2));
        b.refused(STATE, "line(0) when there are 40", States::fullOfLines, x -> x.line(0));
        b.refused(STATE, "line(2) when there are 40", States::fullOfLines, x -> x.line(2));
        b.refused(STATE, "line(31) when all is full", States::full, x -> x.line(31));
        b.refused(STATE, "line(0) when a resolvent is the 40th", () -> walk(34), x -> x.line(0));
        b.allowed(39, "line(0) when one of 40 was cut", () -> cutTo(States.full(), 39), x -> x.line(0));
        b.sentence(15, "Returns the number of the line.");
        Proofweigh x = States.contrary();
        for (int line = 0; line < 40; line++) {
            int number = line;
            b.due(number, "line(" + number % 2 + ")", () -> x.line(number % 2));
            b.due(1 + number % 2, "lineAt(" + number + ")", () -> x.lineAt(number));
        }
    }

    private static void resolve(Boundary b) {
        b.sentence(16, "Returns the number of the new line.");
        b.allowed(2, "resolve(0, 1, 0)", () -> put(1, 1, 2), x -> x.resolve(0, 1, 0));
        b.allowed(39, "resolve(0, 1, 0) when there are 39", () -> States.linesLeft(1), x -> x.resolve(0, 1, 0));
        b.allowed(0, "lineAt(39) of the 40th", () -> walk(34), x -> x.lineAt(39));
        b.sentence(16, "line: the line that has the variable");
        b.allowed(3, "resolve(0, 1, 0) of the first line", () -> put(1, 1, 2, 2), x -> x.resolve(0, 1, 0));
        b.allowed(3, "resolve(2, 0, 0) of the last line", () -> put(1, 2, 2, 1), x -> x.resolve(2, 0, 0));
        b.allowed(39, "resolve(38, 0, 0) of the line 38", () -> {
            Proofweigh x = Check.formula(1, 2, 1);
            x.line(0);
            for (int line = 1; line < 39; line++) {
                x.line(1);
            }
            return x;
        }, x -> x.resolve(38, 0, 0));
        b.sentence(16, "other: the line that has it denied");
        b.allowed(3, "resolve(0, 2, 0) of the last line", () -> put(1, 1, 1, 2), x -> x.resolve(0, 2, 0));
        b.allowed(39, "resolve(0, 38, 0) of the line 38", () -> States.linesLeft(1), x -> x.resolve(0, 38, 0));
        b.sentence(16, "variable: the variable");
        for (int variable = 0; variable < 6; variable++) {
            int asked = variable;
            int power = (int) Math.pow(3, variable);
            int least = variable + 1;
            b.allowed(2, "resolve(0, 1, " + asked + ")", () -> put(least, power, 2 * power), x -> x.resolve(0, 1, asked));
            b.allowed(0, "lineAt(2)", () -> put(6, power, 2 * power), x -> x.resolve(0, 1, asked) - 2 + x.lineAt(2));
            b.allowed(728 - 2 * power, "lineAt(2) of all others denied",
                    () -> put(6, 728 - power, 728), x -> x.resolve(0, 1, asked) - 2 + x.lineAt(2));
        }
        b.sentence(TERMS, "both together without this variable, if no other variable is in them both ways");
        b.allowed(3, "x0 or x1, x0 denied or x1", () -> put(2, 4, 5), x -> x.resolve(0, 1, 0) - 2 + x.lineAt(2));
        b.allowed(6 + 9 + 243, "x0 or x1 denied or x2, x0 denied or x5",
                () -> put(6, 16, 245), x -> x.resolve(0, 1, 0) - 2 + x.lineAt(2));
        b.refused(UNSUPPORTED, "x0 or x1, both denied", () -> put(2, 4, 8), x -> x.resolve(0, 1, 0));
    }

    private static final int TERMS = Boundary.TERMS;

    /** All clauses of a formula as its lines. */
    private static Proofweigh put(int variables, int... clauses) {
        Proofweigh x = Check.formula(variables, clauses);
        Check.putAll(x);
        return x;
    }

    private static void resolveRefused(Boundary b) {
        b.sentence(16, "IndexOutOfBoundsException if there is no such line, for either");
        b.refused(INDEX, "resolve(0, 0, 0) of nothing", States::contrary, x -> x.resolve(0, 0, 0));
        b.refusedBeyond(0, 8, INDEX, "resolve(#, 1, 1)", States::mixed, (x, k) -> x.resolve(k, 1, 1));
        b.refusedBeyond(0, 8, INDEX, "resolve(0, #, 1)", States::mixed, (x, k) -> x.resolve(0, k, 1));
        b.refusedBeyond(0, 8, INDEX, "resolve(#, #, 1)", States::mixed, (x, k) -> x.resolve(k, k, 1));
        b.refusedBeyond(0, 38, INDEX, "resolve(0, #, 0)", () -> States.linesLeft(1), (x, k) -> x.resolve(0, k, 0));
        b.refused(INDEX, "resolve(0, 7, 0) of a line that was cut", () -> cutTo(States.mixed(), 7), x -> x.resolve(0, 7, 0));
        b.sentence(16, "IllegalArgumentException if there is no such variable");
        b.refusedBeyond(0, 2, ARGUMENT, "resolve(0, 1, #)", States::mixed, (x, k) -> x.resolve(0, 1, k));
        b.refusedBeyond(0, 5, ARGUMENT, "resolve(0, 1, #)", States::wide, (x, k) -> x.resolve(0, 1, k));
        b.refused(ARGUMENT, "resolve(0, 1, 32), 0 modulo 32", () -> put(1, 1, 2), x -> x.resolve(0, 1, 32));
        b.sentence(16, "UnsupportedOperationException if one has it not so, or another variable is in them both ways");
        b.refused(UNSUPPORTED, "the first one has it denied", () -> put(2, 2, 2), x -> x.resolve(0, 1, 0));
        b.refused(UNSUPPORTED, "the other one has it", () -> put(2, 1, 1), x -> x.resolve(0, 1, 0));
        b.refused(UNSUPPORTED, "the other way round", () -> put(2, 2, 1), x -> x.resolve(0, 1, 0));
        b.refused(UNSUPPORTED, "the first one has it not", () -> put(2, 3, 2), x -> x.resolve(0, 1, 0));
        b.refused(UNSUPPORTED, "the other one has it not", () -> put(2, 1, 6), x -> x.resolve(0, 1, 0));
        b.refused(UNSUPPORTED, "the same line twice", () -> put(2, 1, 2), x -> x.resolve(0, 0, 0));
        b.refused(UNSUPPORTED, "the same line twice, denied", () -> put(2, 1, 2), x -> x.resolve(1, 1, 0));
        b.refused(UNSUPPORTED, "the empty clause first", () -> put(2, 0, 2), x -> x.resolve(0, 1, 0));
        b.refused(UNSUPPORTED, "the empty clause as the other one", () -> put(2, 1, 0), x -> x.resolve(0, 1, 0));
        b.refused(UNSUPPORTED, "x1 both ways", () -> put(2, 4, 8), x -> x.resolve(0, 1, 0));
        b.refused(UNSUPPORTED, "x0 both ways", () -> put(2, 4, 8), x -> x.resolve(0, 1, 1));
        b.refused(UNSUPPORTED, "x1 both ways, denied first", () -> put(2, 7, 5), x -> x.resolve(0, 1, 0));
        b.refused(UNSUPPORTED, "x5 both ways", () -> put(6, 1 + 243, 2 + 486), x -> x.resolve(0, 1, 0));
        b.refused(UNSUPPORTED, "x5 both ways, denied first", () -> put(6, 1 + 486, 2 + 243), x -> x.resolve(0, 1, 0));
        b.sentence(16, "IllegalStateException if there are 40");
        b.refused(STATE, "resolve(0, 1, 0) when there are 40", States::fullOfLines, x -> x.resolve(0, 1, 0));
        b.refused(STATE, "resolve(0, 1, 1) when all is full", States::full, x -> x.resolve(0, 1, 1));
        b.refused(STATE, "resolve(0, 1, 0) after 40 lines of a walk", () -> walk(34), x -> x.resolve(0, 1, 0));
        b.sentence(TERMS, "A line uses earlier lines alone");
        b.refused(INDEX, "resolve(2, 1, 0), of itself", () -> put(1, 1, 2), x -> x.resolve(2, 1, 0));
        b.refused(INDEX, "resolve(0, 2, 0), of itself", () -> put(1, 1, 2), x -> x.resolve(0, 2, 0));
    }

    private static void cut(Boundary b) {
        b.sentence(17, "line: the first line that goes");
        b.allowed(0, "cut(0)", States::mixed, x -> x.cut(0));
        b.allowed(8, "cut(8)", States::mixed, x -> x.cut(8));
        b.allowed(0, "cut(0) of one", () -> put(1, 1), x -> x.cut(0));
        b.allowed(39, "cut(39) of 40", States::full, x -> x.cut(39));
        b.allowed(0, "cut(0) of 40", States::full, x -> x.cut(0));
        b.allowed(INDEX, "lineAt(0) after cut(0)", States::mixed, x -> x.cut(0) + x.lineAt(0));
        b.allowed(INDEX, "lineAt(8) after cut(8)", States::mixed, x -> x.cut(8) + x.lineAt(8));
        b.allowed(0, "lineAt(7) after cut(8)", States::mixed, x -> x.cut(8) - 8 + x.lineAt(7));
        b.allowed(7, "proof('e') after cut(8)", States::mixed, x -> x.cut(8) - 8 + x.proof('e'));
        b.allowed(ELEMENT, "proof('e') after cut(7)", States::mixed, x -> x.cut(7) + x.proof('e'));
        b.alike("cut(2) of three", put(1, 1, 2), cutTo(States.ended(), 2));
        b.sentence(17, "Returns how many are left.");
        for (int line = 0; line < 40; line++) {
            int first = line;
            b.allowed(first, "cut(" + first + ") of 40", () -> walk(34), x -> x.cut(first));
        }
        b.sentence(17, "IndexOutOfBoundsException if there is no such line");
        b.refused(INDEX, "cut(0) of nothing", States::empty, x -> x.cut(0));
        b.refusedBeyond(0, 8, INDEX, "cut(#)", States::mixed, (x, k) -> x.cut(k));
        b.refusedBeyond(0, 39, INDEX, "cut(#)", States::full, (x, k) -> x.cut(k));
        b.refused(INDEX, "cut(7) again", () -> cutTo(States.mixed(), 7), x -> x.cut(7));
    }

    private static void lineAt(Boundary b) {
        b.sentence(18, "line: the line");
        b.allowedFrom(0, "lineAt(#)", States::mixed, (x, k) -> x.lineAt(k), 4, 7, 5, 8, 10, 1, 2, 0, 10);
        b.allowed(4, "lineAt(39) of 40", States::full, x -> x.lineAt(39));
        b.allowed(728, "lineAt(0) of all six", () -> put(6, 728), x -> x.lineAt(0));
        b.sentence(18, "IndexOutOfBoundsException if there is no such line");
        b.refused(INDEX, "lineAt(0) of nothing", States::empty, x -> x.lineAt(0));
        b.refusedBeyond(0, 8, INDEX, "lineAt(#)", States::mixed, (x, k) -> x.lineAt(k));
        b.refusedBeyond(0, 39, INDEX, "lineAt(#)", States::full, (x, k) -> x.lineAt(k));
        b.refused(INDEX, "lineAt(7) after cut(7)", () -> cutTo(States.mixed(), 7), x -> x.lineAt(7));
    }

    private static void proof(Boundary b) {
        b.sentence(19, "what: 's' its size, 'w' its width, 'd' its depth, 'e' its end");
        measured(b, "the empty clause", () -> put(1, 0), 1, 0, 0, 0);
        measured(b, "the empty clause behind another one", () -> put(6, 728, 0), 1, 0, 0, 1);
        measured(b, "x0 and x0 denied", States::ended, 3, 1, 1, 2);
        measured(b, "much that is not needed", States::mixed, 7, 2, 2, 7);
        measured(b, "40 lines", () -> walk(34), 39, 2, 35, 39);
        measured(b, "40 lines, two for one", () -> doubled(11), 40, 3, 23, 39);
        measured(b, "two ends", () -> put(2, 8, 0, 0), 1, 0, 0, 1);
        measured(b, "an end and a later one that is made", () -> twice(), 3, 1, 1, 2);
        b.sentence(TERMS, "Its end is the first line that is the empty clause.");
        b.allowed(2, "proof('e') of two that are made", () -> twice(), x -> x.proof('e'));
        b.allowed(0, "proof('e') of all empty", () -> put(1, 0, 0, 0), x -> x.proof('e'));
        b.allowed(39, "proof('e') of the last one of 40", () -> walk(34), x -> x.proof('e'));
        b.sentence(TERMS, "the size is how many are needed for the end, the width the greatest width of these,"
                + " the depth the most resolvents in a row down to a clause.");
        measured(b, "all six variables in one that is needed", LinesBoundary::peeled, 13, 6, 6, 12);
        b.sentence(TERMS, "a size counts each line once");
        b.allowed(6, "proof('s') of x0 used twice", LinesBoundary::shared, x -> x.proof('s'));
        b.allowed(7L, "unfolded() of x0 used twice", LinesBoundary::shared, x -> x.unfolded());
        b.sentence(19, "IllegalArgumentException if there is no such thing");
        for (char what : new char[] {'r', 't', 'v', 'x', 'c', 'f', 'S', 'W', 'D', 'E', 0, ' ', 'a', 'z', 's' + 256, 0xFFFF}) {
            b.refused(ARGUMENT, "proof((char) " + (int) what + ")", States::ended, x -> x.proof(what));
        }
        for (char what : "swde".toCharArray()) {
            wantsEnd(b, 19, "proof('" + what + "')", x -> x.proof(what));
        }
    }

    private static void measured(Boundary b, String name, Boundary.Made made, int size, int width, int depth, int end) {
        b.allowed(size, "proof('s') of " + name, made, x -> x.proof('s'));
        b.allowed(width, "proof('w') of " + name, made, x -> x.proof('w'));
        b.allowed(depth, "proof('d') of " + name, made, x -> x.proof('d'));
        b.allowed(end, "proof('e') of " + name, made, x -> x.proof('e'));
    }

    /** x0 and x0 denied, the empty clause made of them twice, and the clause x0 once more. */
    private static Proofweigh twice() {
        Proofweigh x = States.ended();
        x.resolve(0, 1, 0);
        x.line(0);
        return x;
    }

    /** All six variables denied in one, and each of them alone. */
    private static Proofweigh peeled() {
        Proofweigh x = put(6, 728, 1, 3, 9, 27, 81, 243);
        int last = 0;
        for (int variable = 0; variable < 6; variable++) {
            last = x.resolve(variable + 1, last, variable);
        }
        return x;
    }

    /** x0 is used for x1 and for x1 denied. */
    private static Proofweigh shared() {
        Proofweigh x = put(2, 1, 5, 8);
        x.resolve(0, 1, 0);
        x.resolve(0, 2, 0);
        x.resolve(3, 4, 1);
        return x;
    }

    /** The four clauses of x0 and x1, resolved as a tree. */
    private static Proofweigh treed() {
        Proofweigh x = States.square();
        Check.putAll(x);
        x.resolve(0, 1, 1);
        x.resolve(2, 3, 1);
        x.resolve(4, 5, 0);
        return x;
    }

    private static void trees(Boundary b) {
        b.sentence(TERMS, "It is a tree if each line needed but the end is used once by those needed");
        b.allowed(true, "isTree() of the empty clause", () -> put(1, 0), x -> x.isTree());
        b.allowed(true, "isTree() of three lines", States::ended, x -> x.isTree());
        b.allowed(true, "isTree() of four clauses", LinesBoundary::treed, x -> x.isTree());
        b.allowed(true, "isTree() of six peeled off", LinesBoundary::peeled, x -> x.isTree());
        b.allowed(false, "isTree() of a clause used twice", LinesBoundary::shared, x -> x.isTree());
        b.allowed(false, "isTree() of a clause used often", () -> walk(34), x -> x.isTree());
        b.allowed(false, "isTree() of a resolvent used twice", () -> doubled(2), x -> x.isTree());
        b.allowed(true, "isTree() of lines used by others that are not needed", () -> {
            Proofweigh x = put(2, 1, 2, 5);
            x.resolve(0, 2, 0);
            x.resolve(0, 1, 0);
            x.resolve(0, 1, 0);
            return x;
        }, x -> x.isTree());
        b.allowed(true, "isTree() of the same clause as two lines", () -> {
            Proofweigh x = put(2, 1, 5, 8, 1);
            x.resolve(0, 1, 0);
            x.resolve(3, 2, 0);
            x.resolve(4, 5, 1);
            return x;
        }, x -> x.isTree());
        wantsEnd(b, 20, "isTree()", x -> x.isTree());
    }

    private static void regular(Boundary b) {
        b.sentence(TERMS, "It is regular if in no row of resolvents down from the end a variable is resolved twice.");
        b.allowed(true, "isRegular() of the empty clause", () -> put(1, 0), x -> x.isRegular());
        b.allowed(true, "isRegular() of three lines", States::ended, x -> x.isRegular());
        b.allowed(true, "isRegular() of x1 in two rows", LinesBoundary::treed, x -> x.isRegular());
        b.allowed(true, "isRegular() of all six in one row", LinesBoundary::peeled, x -> x.isRegular());
        b.allowed(true, "isRegular() of x0, x1", () -> walk(1), x -> x.isRegular());
        b.allowed(false, "isRegular() of x0, x1, x0", () -> walk(2), x -> x.isRegular());
        b.allowed(false, "isRegular() of 40 lines", () -> walk(34), x -> x.isRegular());
        b.allowed(false, "isRegular() of x5 twice", () -> {
            Proofweigh x = put(6, 243, 486 + 1, 2 + 243, 486);
            x.resolve(0, 1, 5);
            x.resolve(4, 2, 0);
            x.resolve(5, 3, 5);
            return x;
        }, x -> x.isRegular());
        b.allowed(true, "isRegular() of a row that is not needed", () -> {
            Proofweigh x = put(2, 1, 5, 7, 6, 2);
            x.resolve(0, 1, 0);
            x.resolve(5, 2, 1);
            x.resolve(6, 1, 0);
            x.resolve(5, 3, 1);
            return x;
        }, x -> x.isRegular());
        b.allowed(true, "isRegular() of an irregular end behind the first one", () -> {
            Proofweigh x = put(2, 0, 1, 5, 7, 2);
            x.resolve(1, 2, 0);
            x.resolve(5, 3, 1);
            x.resolve(6, 4, 0);
            return x;
        }, x -> x.isRegular());
        wantsEnd(b, 21, "isRegular()", x -> x.isRegular());
    }

    private static void unfolded(Boundary b) {
        b.sentence(22, "Returns how many lines the unfolded proof has.");
        b.allowed(1L, "unfolded() of the empty clause", () -> put(1, 0), x -> x.unfolded());
        b.allowed(3L, "unfolded() of three lines", States::ended, x -> x.unfolded());
        b.allowed(7L, "unfolded() of a tree", LinesBoundary::treed, x -> x.unfolded());
        b.allowed(7L, "unfolded() of much that is not needed", States::mixed, x -> x.unfolded());
        b.allowed(71L, "unfolded() of a walk of 40 lines", () -> walk(34), x -> x.unfolded());
        b.allowed(6L * 1024L - 3L, "unfolded() of ten times two for one", () -> doubled(10), x -> x.unfolded());
        b.allowed(6L * 2048L - 3L, "unfolded() of 40 lines, two for one", () -> doubled(11), x -> x.unfolded());
        wantsEnd(b, 22, "unfolded()", x -> x.unfolded());
    }

    private static void space(Boundary b) {
        b.sentence(23, "Returns how many lines.");
        b.allowed(1, "space() of the empty clause", () -> put(1, 0), x -> x.space());
        b.allowed(1, "space() of the empty clause behind 39 others", () -> {
            Proofweigh x = Check.formula(1, 1, 0);
            for (int line = 0; line < 39; line++) {
                x.line(0);
            }
            x.line(1);
            return x;
        }, x -> x.space());
        b.allowed(2, "space() of three lines", States::ended, x -> x.space());
        b.allowed(3, "space() of a tree", LinesBoundary::treed, x -> x.space());
        b.allowed(3, "space() of x0 used twice", LinesBoundary::shared, x -> x.space());
        b.allowed(2, "space() of a walk", () -> walk(7), x -> x.space());
        b.sentence(23, "UnsupportedOperationException if its size is above 12");
        b.allowed(12, "proof('s') of a walk", () -> walk(7), x -> x.proof('s'));
        b.allowed(13, "proof('s') of a walk of one more", () -> walk(8), x -> x.proof('s'));
        b.refused(UNSUPPORTED, "space() of a size of 13", () -> walk(8), x -> x.space());
        b.refused(UNSUPPORTED, "space() of six peeled off, 13 lines", LinesBoundary::peeled, x -> x.space());
        b.refused(UNSUPPORTED, "space() of a size of 14", () -> walk(9), x -> x.space());
        b.refused(UNSUPPORTED, "space() of 40 lines", () -> walk(34), x -> x.space());
        b.allowed(2, "space() of a size of 12 in 40 lines", () -> {
            Proofweigh x = walk(7);
            for (int line = 13; line < 40; line++) {
                x.line(line % 5);
            }
            return x;
        }, x -> x.space());
        wantsEnd(b, 23, "space()", x -> x.space());
    }
}
