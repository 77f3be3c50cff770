/** The boundaries of the promises 24 to 30: trees, widths, games. */
final class TreesBoundary {
    private static final Class<?> ARGUMENT = Check.ARGUMENT;
    private static final Class<?> ELEMENT = Check.ELEMENT;
    private static final int TERMS = Boundary.TERMS;

    private TreesBoundary() {}

    static void check(Boundary b) {
        least(b);
        treesRefused(b);
        ask(b);
        askRefused(b);
        width(b);
        saturated(b);
        pebbles(b);
    }

    /** Expects that a call wants a formula that no values keep. */
    static void wantsNoModel(Boundary b, String call, Boundary.On on) {
        b.refused(ELEMENT, call + " of nothing", States::empty, on);
        b.refused(ELEMENT, call + " of nothing in one variable", States::one, on);
        b.refused(ELEMENT, call + " of x0, 32 times", () -> States.fullOfClauses(6), on);
        b.refused(ELEMENT, call + " of what much keeps", States::wide, on);
        b.refused(ELEMENT, call + " of what 0 alone keeps", () -> Check.formula(6, 2, 6, 18, 54, 162, 486), on);
        b.refused(ELEMENT, call + " of what 63 alone keeps", () -> Check.formula(6, 1, 3, 9, 27, 81, 243), on);
        b.refused(ELEMENT, call + " of what 1 alone keeps", () -> Check.formula(1, 1), on);
        b.refused(ELEMENT, call + " of what was cleared", () -> {
            Proofweigh x = States.full();
            x.clear();
            return x;
        }, on);
    }

    /** All clauses of so many variables that have all of them. */
    static Proofweigh all(int variables) {
        Proofweigh x = Check.formula(variables);
        for (int signs = 0; signs < 1 << variables; signs++) {
            int code = 0;
            for (int variable = variables - 1; variable >= 0; variable--) {
                code = 3 * code + 1 + (signs >> variable & 1);
            }
            x.add(code);
        }
        return x;
    }

    /** All six variables in one, and each of them denied. */
    static Proofweigh six() {
        return Check.formula(6, 364, 2, 6, 18, 54, 162, 486);
    }

    static Proofweigh stair(int steps) {
        Proofweigh x = new Proofweigh();
        x.stair(steps);
        return x;
    }

    /** The ring of three, lifted to six variables. */
    static Proofweigh lifted() {
        Proofweigh x = new Proofweigh();
        x.ring(3);
        x.lift();
        return x;
    }

    private static void measured(Boundary b, String name, Boundary.Made made, int size, int depth, int weight) {
        b.allowed(size, "treeSize() of " + name, made, x -> x.treeSize());
        b.allowed(depth, "treeDepth() of " + name, made, x -> x.treeDepth());
        b.allowed(weight, "treeWeight() of " + name, made, x -> x.treeWeight());
    }

    private static void least(Boundary b) {
        b.sentence(TERMS, "A tree of questions asks variables until a clause is false by the answers alone");
        measured(b, "the empty clause", () -> Check.formula(1, 0), 1, 0, 0);
        measured(b, "the empty clause in six", () -> Check.formula(6, 0), 1, 0, 0);
        measured(b, "the empty clause behind others", () -> Check.formula(6, 728, 1, 2, 0), 1, 0, 0);
        b.sentence(TERMS, "its size is how many nodes it has, leaves counted, its depth the most questions in a row.");
        for (int variables = 1; variables <= 5; variables++) {
            int many = variables;
            measured(b, "all of " + many, () -> all(many), (2 << many) - 1, many, many);
        }
        b.sentence(TERMS, "The weight of a tree is 0 of a leaf, else the greater weight of both parts,"
                + " or 1 more if both are the same");
        measured(b, "x0 and x0 denied", States::contrary, 3, 1, 1);
        measured(b, "six", TreesBoundary::six, 13, 6, 1);
        b.sentence(TERMS, "the least size, the least depth and the least weight are each told by themselves");
        measured(b, "stair(6)", () -> stair(6), 13, 3, 1);
        measured(b, "stair(1)", () -> stair(1), 3, 1, 1);
        measured(b, "a lifted ring", TreesBoundary::lifted, 79, 6, 5);
        b.sentence(TERMS, "each least one is so among all of its kind");
        measured(b, "a square behind a worse way, and lines that are longer", States::mixed, 7, 2, 2);
        measured(b, "32 clauses, perhaps alike", States::full, 7, 2, 2);
        measured(b, "a stair and x5 denied twice", () -> Check.formula(6, 1, 5, 15, 45, 135, 405, 486, 486, 6), 5, 2, 1);
    }

    private static void treesRefused(Boundary b) {
        b.sentence(24, "NoSuchElementException if some values keep all clauses");
        wantsNoModel(b, "treeSize()", x -> x.treeSize());
        b.sentence(25, "NoSuchElementException if some values keep all clauses");
        wantsNoModel(b, "treeDepth()", x -> x.treeDepth());
        b.sentence(26, "NoSuchElementException if some values keep all clauses");
        wantsNoModel(b, "treeWeight()", x -> x.treeWeight());
    }

    private static void ask(Boundary b) {
        b.sentence(27, "answers: a number in base 3 with a digit for each variable: 0 not asked yet, 1 true, 2 false");
        b.allowed(0, "ask(0)", States::contrary, x -> x.ask(0));
        b.allowed(ELEMENT, "ask(2), the last answers of one variable", States::contrary, x -> x.ask(2));
        b.allowed(ELEMENT, "ask(728), the last answers of six", TreesBoundary::six, x -> x.ask(728));
        b.allowed(0, "ask(726), all but x0 false", TreesBoundary::six, x -> x.ask(726));
        b.allowed(5, "ask(242), all but x5 false", TreesBoundary::six, x -> x.ask(242));
        b.allowed(5, "ask(121), all but x5 true", () -> stair(6), x -> x.ask(121));
        b.allowed(1, "ask(1), x0 true", States::square, x -> x.ask(1));
        b.allowed(1, "ask(2), x0 false", States::square, x -> x.ask(2));
        b.allowed(0, "ask(3), x1 true", States::square, x -> x.ask(3));
        b.allowed(0, "ask(6), x1 false", States::square, x -> x.ask(6));
        b.sentence(27, "Returns the lowest such variable.");
        b.allowed(0, "ask(0) of any of two", States::square, x -> x.ask(0));
        b.allowed(0, "ask(0) of any of five", () -> all(5), x -> x.ask(0));
        b.allowed(4, "ask(40) of the last one of five", () -> all(5), x -> x.ask(40));
        b.allowed(0, "ask(0) of any step", () -> stair(6), x -> x.ask(0));
        b.allowed(1, "ask(1) of any step left", () -> stair(6), x -> x.ask(1));
        b.allowed(5, "ask(0) of x5 alone", () -> Check.formula(6, 4, 8, 243, 486), x -> x.ask(0));
        b.allowed(2, "ask(0) of x2 or x4", () -> Check.formula(6, 4, 9, 18, 81, 162), x -> x.ask(0));
    }

    private static void askRefused(Boundary b) {
        b.sentence(27, "IllegalArgumentException if there are no such answers");
        for (int variables = 1; variables <= 6; variables++) {
            int many = variables;
            int last = (int) Math.pow(3, many) - 1;
            b.allowed(ELEMENT, "ask(" + last + ") of " + many, () -> Check.formula(many, 1, 2), x -> x.ask(last));
            b.refusedBeyond(0, last, ARGUMENT, "ask(#) of " + many, () -> Check.formula(many, 1, 2), (x, k) -> x.ask(k));
        }
        b.refusedBeyond(0, 26, ARGUMENT, "ask(#)", States::mixed, (x, k) -> x.ask(k));
        b.sentence(27, "NoSuchElementException if some values keep all clauses, or a clause is false");
        wantsNoModel(b, "ask(0)", x -> x.ask(0));
        wantsNoModel(b, "ask(1)", x -> x.ask(1));
        b.refused(ELEMENT, "ask(0) of the empty clause", () -> Check.formula(6, 0), x -> x.ask(0));
        b.refused(ELEMENT, "ask(2) of x0", () -> stair(6), x -> x.ask(2));
        b.refused(ELEMENT, "ask(243) of x5 denied", () -> stair(6), x -> x.ask(243));
        b.refused(ELEMENT, "ask(7), x0 true and x1 false", () -> stair(6), x -> x.ask(7));
        b.refused(ELEMENT, "ask(8)", States::mixed, x -> x.ask(8));
        b.refused(ELEMENT, "ask(8) when all is full", States::full, x -> x.ask(8));
        b.refused(ELEMENT, "ask(364) of all denied", () -> Check.formula(6, 728, 1, 3, 9, 27, 81, 243), x -> x.ask(364));
    }

    private static void width(Boundary b) {
        b.sentence(TERMS, "The width of the formula is the least k such that the empty clause comes from clauses of it of a"
                + " width of at most k by resolvents of a width of at most k");
        b.allowed(0, "width() of the empty clause", () -> Check.formula(1, 0), x -> x.width());
        b.allowed(0, "width() of the empty clause behind others", () -> Check.formula(6, 728, 364, 0), x -> x.width());
        b.allowed(1, "width() of x0 and x0 denied", States::contrary, x -> x.width());
        b.allowed(1, "width() of these and wide ones", () -> Check.formula(6, 728, 364, 243, 486), x -> x.width());
        b.allowed(2, "width() of a stair", () -> stair(6), x -> x.width());
        b.allowed(2, "width() of a square", States::square, x -> x.width());
        b.allowed(5, "width() of all of five", () -> all(5), x -> x.width());
        b.allowed(6, "width() of six", TreesBoundary::six, x -> x.width());
        b.sentence(28, "NoSuchElementException if some values keep all clauses");
        wantsNoModel(b, "width()", x -> x.width());
    }

    private static void saturated(Boundary b) {
        b.sentence(29, "width: the width, 0 to 6");
        b.allowedFrom(0, "saturated(#) of nothing", States::empty, (x, k) -> x.saturated(k), 0, 0, 0, 0, 0, 0, 0);
        b.allowedFrom(0, "saturated(#)", States::contrary, (x, k) -> x.saturated(k), 0, 3, 3, 3, 3, 3, 3);
        b.allowedFrom(0, "saturated(#) of a square", States::square, (x, k) -> x.saturated(k), 0, 0, 9, 9, 9, 9, 9);
        b.allowedFrom(0, "saturated(#) of six", TreesBoundary::six, (x, k) -> x.saturated(k), 0, 6, 6, 6, 6, 6, 70);
        b.allowedFrom(0, "saturated(#) of all of five", () -> all(5), (x, k) -> x.saturated(k), 0, 0, 0, 0, 0, 243, 243);
        b.sentence(29, "Returns how many unlike clauses, those of the formula counted, of this width at most,"
                + " none with a variable both ways.");
        b.allowedFrom(0, "saturated(#) of the empty clause", () -> Check.formula(1, 0), (x, k) -> x.saturated(k), 1, 1, 1);
        b.allowedFrom(0, "saturated(#) of it twice", () -> Check.formula(6, 0, 0), (x, k) -> x.saturated(k), 1, 1, 1);
        b.allowed(1, "saturated(6) of x0, 32 times", () -> States.fullOfClauses(6), x -> x.saturated(6));
        b.allowed(9, "saturated(2) when all is full", States::full, x -> x.saturated(2));
        b.allowed(2, "saturated(6) of x0 or x1, and of both denied", () -> Check.formula(2, 4, 8), x -> x.saturated(6));
        b.sentence(29, "IllegalArgumentException if a number is out of range");
        b.refusedBeyond(0, 6, ARGUMENT, "saturated(#)", States::mixed, (x, k) -> x.saturated(k));
        b.refusedBeyond(0, 6, ARGUMENT, "saturated(#)", States::empty, (x, k) -> x.saturated(k));
        b.refusedBeyond(0, 6, ARGUMENT, "saturated(#)", States::full, (x, k) -> x.saturated(k));
    }

    private static void pebbles(Boundary b) {
        b.sentence(TERMS, "the least k by which the first side wins is told, 0 if the empty clause is in the formula");
        b.allowed(0, "pebbles() of the empty clause", () -> Check.formula(1, 0), x -> x.pebbles());
        b.allowed(0, "pebbles() of it behind others", () -> Check.formula(6, 728, 1, 2, 0), x -> x.pebbles());
        b.allowed(1, "pebbles() of x0 and x0 denied", States::contrary, x -> x.pebbles());
        b.allowed(1, "pebbles() of these and wide ones", () -> Check.formula(6, 728, 364, 243, 486), x -> x.pebbles());
        b.allowed(2, "pebbles() of a stair", () -> stair(6), x -> x.pebbles());
        b.allowed(2, "pebbles() of a square", States::square, x -> x.pebbles());
        b.allowed(5, "pebbles() of all of five", () -> all(5), x -> x.pebbles());
        b.allowed(6, "pebbles() of six", TreesBoundary::six, x -> x.pebbles());
        b.sentence(30, "NoSuchElementException if some values keep all clauses");
        wantsNoModel(b, "pebbles()", x -> x.pebbles());
    }
}
