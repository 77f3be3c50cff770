/** The boundaries of the promises 49 to 51: shares, means, and the check of all. */
final class WholeBoundary {
    private static final Class<?> ARITHMETIC = Check.ARITHMETIC;

    private WholeBoundary() {}

    static void check(Boundary b) {
        neededShare(b);
        meanWidth(b);
        isTrue(b);
        isTrueOfProofs(b);
    }

    /** The empty clause behind some others. */
    private static Proofweigh behind(int others) {
        Proofweigh x = Check.formula(1, 1, 0);
        for (int line = 0; line < others; line++) {
            x.line(0);
        }
        x.line(1);
        return x;
    }

    private static void neededShare(Boundary b) {
        b.sentence(49, "Returns their number divided by that of all lines, both converted to float.");
        for (int others = 0; others < 40; others++) {
            int many = others;
            b.allowed(1.0f / (float) (many + 1), "neededShare() of one of " + (many + 1), () -> behind(many), x -> x.neededShare());
        }
        b.allowed(1.0f, "neededShare() of all three", States::ended, x -> x.neededShare());
        b.allowed(39.0f / 40.0f, "neededShare() of 39 of 40", () -> LinesBoundary.walk(34), x -> x.neededShare());
        b.allowed(1.0f, "neededShare() of all 40", () -> LinesBoundary.doubled(11), x -> x.neededShare());
        b.allowed(7.0f / 9.0f, "neededShare() of 7 of 9", States::mixed, x -> x.neededShare());
        b.allowed(7.0f / 40.0f, "neededShare() when all is full", States::full, x -> x.neededShare());
        b.allowed(0.1f, "neededShare() of one of 10", () -> behind(9), x -> x.neededShare());
        LinesBoundary.wantsEnd(b, 49, "neededShare()", x -> x.neededShare());
    }

    private static void meanWidth(Boundary b) {
        b.sentence(50, "Returns the sum divided by their number, both converted to double.");
        b.allowed(0.0, "meanWidth() of the empty clause", () -> Check.formula(1, 0), x -> x.meanWidth());
        b.allowed(0.5, "meanWidth() of it and x0", () -> Check.formula(1, 0, 1), x -> x.meanWidth());
        b.allowed(6.0, "meanWidth() of all six", () -> Check.formula(6, 364), x -> x.meanWidth());
        b.allowed(6.0, "meanWidth() of all six denied", () -> Check.formula(6, 728), x -> x.meanWidth());
        b.allowed(1.0, "meanWidth() of x0, 32 times", () -> States.fullOfClauses(6), x -> x.meanWidth());
        b.allowed(2.0, "meanWidth() when all is full", States::full, x -> x.meanWidth());
        b.allowed(5.0 / 3.0, "meanWidth() of 5 by 3", () -> Check.formula(3, 1, 6, 26), x -> x.meanWidth());
        b.allowed(12.0 / 7.0, "meanWidth() of six", TreesBoundary::six, x -> x.meanWidth());
        for (int clauses = 1; clauses <= 32; clauses++) {
            int many = clauses;
            b.allowed(1.0 / (double) many, "meanWidth() of 1 by " + many, () -> oneWith(many - 1), x -> x.meanWidth());
        }
        b.sentence(50, "ArithmeticException if there are none");
        b.refused(ARITHMETIC, "meanWidth() of nothing", States::empty, x -> x.meanWidth());
        b.refused(ARITHMETIC, "meanWidth() of nothing in one variable", States::one, x -> x.meanWidth());
        b.refused(ARITHMETIC, "meanWidth() after clear()", () -> {
            Proofweigh x = States.full();
            x.clear();
            return x;
        }, x -> x.meanWidth());
        b.refused(ARITHMETIC, "meanWidth() after variables(6)", () -> {
            Proofweigh x = States.mixed();
            x.variables(6);
            return x;
        }, x -> x.meanWidth());
    }

    /** x0, and the empty clause so many times. */
    private static Proofweigh oneWith(int empty) {
        Proofweigh x = Check.formula(1, 1);
        for (int clause = 0; clause < empty; clause++) {
            x.add(0);
        }
        return x;
    }

    private static void isTrue(Boundary b) {
        b.sentence(51, "Returns whether all of it holds.");
        Boundary.Made[] states = {
            States::empty, States::one, States::square, States::contrary, States::ended, States::mixed, States::wide,
            States::full, States::fullOfLines, States::fullOfPlanes, States::fullOfLemmas, TreesBoundary::six,
            TreesBoundary::lifted, () -> TreesBoundary.all(5), () -> Check.formula(1, 0), () -> Check.formula(6, 0, 0),
            () -> Check.formula(6, 728, 364, 0), () -> States.fullOfClauses(1), () -> States.fullOfClauses(6)
        };
        for (int state = 0; state < states.length; state++) {
            Proofweigh x = states[state].make();
            b.due(true, "isTrue() of the state " + state, () -> x.isTrue());
            b.alike("isTrue() changes nothing", states[state].make(), x);
        }
        b.sentence(51, "that the pebbles less 1 are at most the width, the width at most them less 1 or the widest clause");
        b.allowed(true, "no pebbles, a width of 0", () -> Check.formula(1, 0), x -> x.pebbles() == 0 && x.width() == 0 && x.isTrue());
        b.allowed(true, "no pebbles, a widest clause of 6", () -> Check.formula(6, 0, 728), x -> x.width() == 0 && x.isTrue());
        b.allowed(true, "6 pebbles, a width of 6", TreesBoundary::six, x -> x.pebbles() == 6 && x.width() == 6 && x.isTrue());
        b.allowed(true, "6 pebbles, a width of 5", TreesBoundary::lifted, x -> x.pebbles() == 6 && x.width() == 5 && x.isTrue());
        b.sentence(51, "the least depth at most the number of variables, and the calculus degree at most the static one.");
        b.allowed(true, "a depth of 6", TreesBoundary::six, x -> x.treeDepth() == 6 && x.isTrue());
        b.allowed(true, "a depth of 1 in one variable", States::contrary, x -> x.treeDepth() == 1 && x.isTrue());
        b.allowed(true, "degrees of 6", TreesBoundary::six, x -> x.degree(7) == 6 && x.staticDegree(7) == 6 && x.isTrue());
        b.allowed(true, "degrees of 4 and 6", TreesBoundary::lifted, x -> x.degree(3) == 4 && x.staticDegree(3) == 6 && x.isTrue());
        b.allowed(true, "degrees of 0", () -> Check.formula(6, 0), x -> x.degree(2) == 0 && x.staticDegree(2) == 0 && x.isTrue());
    }

    private static void isTrueOfProofs(Boundary b) {
        b.sentence(51, "Checks that all lines follow from the formula; what the end tells lies between both sides; all planes hold"
                + " where all clauses do; all lemmas follow");
        b.allowed(true, "40 lines", () -> LinesBoundary.walk(34), x -> x.isTrue());
        b.allowed(true, "lines without an end", States::fullOfLines, x -> x.isTrue());
        b.allowed(true, "all of the side 1", () -> moved(States.full(), 32), x -> x.isTrue());
        for (int clauses = 0; clauses <= 5; clauses++) {
            int many = clauses;
            b.allowed(true, "some of the side 1", () -> moved(States.mixed(), many), x -> x.isTrue());
        }
        b.allowed(true, "planes of a proof", States::mixed, x -> x.toPlanes() == 10 && x.isTrue());
        b.allowed(true, "a plane that just touches", () -> {
            Proofweigh x = Check.formula(6, 364, 728);
            x.plane(0);
            x.plane(1);
            x.bound(5, false);
            x.bound(5, true);
            x.sum(0, 9, 1, 9);
            return x;
        }, x -> x.isTrue());
        b.allowed(true, "a plane rounded up", () -> {
            Proofweigh x = Check.formula(2, 4, 5);
            x.plane(0);
            x.plane(1);
            x.sum(0, 1, 1, 1);
            x.divide(2, 2);
            return x;
        }, x -> x.planeAt(3, -1) == 1 && x.isTrue());
    }

    /** The first ones of the clauses on the side 1, all others on the side 0. */
    private static Proofweigh moved(Proofweigh x, int many) {
        for (int clause = 0; clause < x.clauses(); clause++) {
            x.side(clause, clause < many ? 1 : 0);
        }
        return x;
    }
}
