/** The boundaries of the promises 31 to 38: planes. */
final class PlanesBoundary {
    private static final Class<?> ARGUMENT = Check.ARGUMENT;
    private static final Class<?> STATE = Check.STATE;
    private static final Class<?> INDEX = Check.INDEX;
    private static final Class<?> UNSUPPORTED = Check.UNSUPPORTED;
    private static final int TERMS = Boundary.TERMS;

    private PlanesBoundary() {}

    static void check(Boundary b) {
        plane(b);
        bound(b);
        sum(b);
        sumBeyond(b);
        sumRefused(b);
        divide(b);
        divideRefused(b);
        planeAt(b);
        refutes(b);
        toPlanes(b);
        toPlanesRefused(b);
    }

    /** Expects the bound of a plane, and its coefficients. */
    private static void numbers(Boundary b, String name, Boundary.Made made, int plane, int... due) {
        for (int place = 0; place < due.length; place++) {
            int variable = place - 1;
            b.allowed(due[place], name + ": planeAt(" + plane + ", " + variable + ")", made, x -> x.planeAt(plane, variable));
        }
    }

    private static Proofweigh planesOf(int variables, int... clauses) {
        Proofweigh x = Check.formula(variables, clauses);
        for (int clause = 0; clause < clauses.length; clause++) {
            x.plane(clause);
        }
        return x;
    }

    private static void plane(Boundary b) {
        b.sentence(31, "clause: the number of the clause in the formula");
        b.allowed(0, "plane(0)", States::contrary, x -> x.plane(0));
        b.allowed(0, "plane(1)", States::contrary, x -> x.plane(1));
        b.allowed(0, "plane(31)", () -> States.fullOfClauses(6), x -> x.plane(31));
        b.sentence(TERMS, "That of a clause has 1 for each variable in it, -1 for each denied one,"
                + " and the bound 1 less how many are denied.");
        numbers(b, "the empty clause", () -> planesOf(6, 0), 0, 1, 0, 0, 0, 0, 0, 0);
        numbers(b, "all six", () -> planesOf(6, 364), 0, 1, 1, 1, 1, 1, 1, 1);
        numbers(b, "all six denied", () -> planesOf(6, 728), 0, -5, -1, -1, -1, -1, -1, -1);
        numbers(b, "x0 denied or x5", () -> planesOf(6, 2 + 243), 0, 0, -1, 0, 0, 0, 0, 1);
        numbers(b, "x0 denied in one variable", () -> planesOf(1, 2), 0, 0, -1);
        b.sentence(31, "IndexOutOfBoundsException if there is no such clause");
        b.refused(INDEX, "plane(0) of nothing", States::empty, x -> x.plane(0));
        b.refusedBeyond(0, 4, INDEX, "plane(#)", States::mixed, (x, k) -> x.plane(k));
        b.refusedBeyond(0, 31, INDEX, "plane(#)", () -> States.fullOfClauses(2), (x, k) -> x.plane(k));
        b.sentence(31, "IllegalStateException if there are 80");
        b.allowed(79, "plane(0) when there are 79", () -> States.planesLeft(1), x -> x.plane(0));
        b.allowed(1, "planeAt(79, 0) then", () -> States.planesLeft(1), x -> x.plane(0) - 79 + x.planeAt(79, -1));
        b.refused(STATE, "plane(0) when there are 80", States::fullOfPlanes, x -> x.plane(0));
        b.refused(STATE, "plane(31) when all is full", States::full, x -> x.plane(31));
        b.sentence(31, "Returns its number.");
        Proofweigh x = States.contrary();
        for (int plane = 0; plane < 80; plane++) {
            int number = plane;
            b.due(number, "plane(" + number % 2 + ")", () -> x.plane(number % 2));
            b.due(number + 1, "planes()", () -> x.planes());
        }
    }

    private static Proofweigh bounds(int variables, int variable, boolean isDenied) {
        Proofweigh x = Check.formula(variables);
        x.bound(variable, isDenied);
        return x;
    }

    private static void bound(Boundary b) {
        b.sentence(32, "variable: the variable");
        for (int variables = 1; variables <= 6; variables++) {
            int many = variables;
            b.allowed(0, "bound(0, false) of " + many, () -> Check.formula(many), x -> x.bound(0, false));
            b.allowed(0, "bound(" + (many - 1) + ", true)", () -> Check.formula(many), x -> x.bound(many - 1, true));
        }
        b.sentence(32, "isDenied: whether it is denied");
        numbers(b, "bound(0, false)", () -> bounds(6, 0, false), 0, 0, 1, 0, 0, 0, 0, 0);
        numbers(b, "bound(0, true)", () -> bounds(6, 0, true), 0, -1, -1, 0, 0, 0, 0, 0);
        numbers(b, "bound(5, false)", () -> bounds(6, 5, false), 0, 0, 0, 0, 0, 0, 0, 1);
        numbers(b, "bound(5, true)", () -> bounds(6, 5, true), 0, -1, 0, 0, 0, 0, 0, -1);
        b.sentence(32, "IllegalArgumentException if there is no such variable");
        for (int variables = 1; variables <= 6; variables++) {
            int many = variables;
            b.refusedBeyond(0, many - 1, ARGUMENT, "bound(#, false)", () -> Check.formula(many), (x, k) -> x.bound(k, false));
        }
        b.refusedBeyond(0, 2, ARGUMENT, "bound(#, true)", States::mixed, (x, k) -> x.bound(k, true));
        b.sentence(32, "IllegalStateException if there are 80");
        b.allowed(79, "bound(1, true) when there are 79", () -> States.planesLeft(1), x -> x.bound(1, true));
        b.allowed(79, "bound(1, false) when there are 79", () -> States.planesLeft(1), x -> x.bound(1, false));
        b.refused(STATE, "bound(1, true) when there are 80", States::fullOfPlanes, x -> x.bound(1, true));
        b.refused(STATE, "bound(0, false) when all is full", States::full, x -> x.bound(0, false));
        b.sentence(32, "Returns its number.");
        Proofweigh x = States.one();
        for (int plane = 0; plane < 80; plane++) {
            int number = plane;
            b.due(number, "bound(0, " + (number % 2 == 0) + ")", () -> x.bound(0, number % 2 == 0));
        }
    }

    /** Planes to reach 9999 by sums of one: itself, then 11, 99, 1089 and 9999 times of it. */
    private static Proofweigh grown(Proofweigh x) {
        x.sum(0, 9, 0, 2);
        x.sum(1, 1, 1, 8);
        x.sum(2, 9, 2, 2);
        x.sum(3, 9, 2, 2);
        return x;
    }

    private static Proofweigh grownBound(int variables, int variable, boolean isDenied) {
        return grown(bounds(variables, variable, isDenied));
    }

    /** The empty clause: the bound alone grows. */
    static Proofweigh grownEmpty() {
        return grown(planesOf(6, 0));
    }

    /** At least -1 of nothing, by sums of both bounds of a variable, in place of the first plane. */
    private static Proofweigh grownBelow() {
        Proofweigh x = bounds(6, 5, false);
        x.bound(5, true);
        x.sum(0, 1, 1, 1);
        x.sum(2, 9, 2, 2);
        x.sum(3, 1, 3, 8);
        x.sum(4, 9, 4, 2);
        x.sum(5, 9, 4, 2);
        return x;
    }

    private static void sum(Boundary b) {
        b.sentence(33, "plane: a plane");
        b.allowed(3, "sum(0, 1, 1, 1) of the first one", States::mixed, x -> x.sum(0, 1, 1, 1));
        b.allowed(3, "sum(2, 1, 1, 1) of the last one", States::mixed, x -> x.sum(2, 1, 1, 1));
        b.allowed(79, "sum(78, 1, 0, 1) when there are 79", () -> States.planesLeft(1), x -> x.sum(78, 1, 0, 1));
        b.sentence(33, "other: another one, or the same");
        b.allowed(3, "sum(1, 1, 0, 1) of the first one", States::mixed, x -> x.sum(1, 1, 0, 1));
        b.allowed(3, "sum(1, 1, 2, 1) of the last one", States::mixed, x -> x.sum(1, 1, 2, 1));
        b.allowed(3, "sum(2, 1, 2, 1) of the same", States::mixed, x -> x.sum(2, 1, 2, 1));
        numbers(b, "sum(0, 1, 0, 1)", () -> doubled(1, 1), 1, -10, -2, -2, -2, -2, -2, -2);
        b.sentence(33, "times: how many times, 1 to 9");
        for (int times = 1; times <= 9; times++) {
            int many = times;
            numbers(b, "sum(0, " + many + ", 0, 1)", () -> doubled(many, 1), 1, -5 * many - 5, -many - 1);
            numbers(b, "sum(0, " + many + ", 1, 1)", () -> both(many, 1), 2, many, many, 1);
        }
        b.sentence(33, "otherTimes: how many times, 1 to 9");
        for (int times = 1; times <= 9; times++) {
            int many = times;
            numbers(b, "sum(0, 1, 0, " + many + ")", () -> doubled(1, many), 1, -5 * many - 5, -many - 1);
            numbers(b, "sum(0, 1, 1, " + many + ")", () -> both(1, many), 2, 1, 1, many);
        }
        numbers(b, "sum(0, 9, 1, 9)", () -> both(9, 9), 2, 9, 9, 9);
        b.sentence(33, "Returns its number.");
        Proofweigh x = bounds(1, 0, true);
        for (int plane = 1; plane < 80; plane++) {
            int number = plane;
            b.due(number, "sum(0, 1, " + (number - 1) + ", 1)", () -> x.sum(0, 1, number - 1, 1));
            b.due(-number - 1, "planeAt(" + number + ", -1)", () -> x.planeAt(number, -1));
        }
    }

    /** All six denied, and a sum of it and of it. */
    private static Proofweigh doubled(int times, int otherTimes) {
        Proofweigh x = planesOf(6, 728);
        x.sum(0, times, 0, otherTimes);
        return x;
    }

    /** x0, that x1 is at least 0, and a sum of both. */
    private static Proofweigh both(int times, int otherTimes) {
        Proofweigh x = planesOf(2, 1);
        x.bound(1, false);
        x.sum(0, times, 1, otherTimes);
        return x;
    }

    private static void sumBeyond(Boundary b) {
        b.sentence(33, "UnsupportedOperationException if a number would be beyond -9999 and 9999");
        for (int variable = 0; variable < 6; variable++) {
            int asked = variable;
            b.allowed(9999, "a coefficient of 9999", () -> grownBound(6, asked, false), x -> x.planeAt(4, asked));
            b.allowed(-9999, "a coefficient of -9999", () -> grownBound(6, asked, true), x -> x.planeAt(4, asked));
            b.refused(UNSUPPORTED, "a coefficient of 10000", () -> grownBound(6, asked, false), x -> x.sum(4, 1, 0, 1));
            b.refused(UNSUPPORTED, "one of 10000 the other way", () -> grownBound(6, asked, false), x -> x.sum(0, 1, 4, 1));
            b.refused(UNSUPPORTED, "a coefficient of -10000", () -> grownBound(6, asked, true), x -> x.sum(4, 1, 0, 1));
        }
        numbers(b, "a bound of 9999", PlanesBoundary::grownEmpty, 4, 9999, 0, 0, 0, 0, 0, 0);
        numbers(b, "a bound of -9999", PlanesBoundary::grownBelow, 6, -9999, 0, 0, 0, 0, 0, 0);
        b.refused(UNSUPPORTED, "a bound of 10000", PlanesBoundary::grownEmpty, x -> x.sum(4, 1, 0, 1));
        b.refused(UNSUPPORTED, "a bound of 10000 the other way", PlanesBoundary::grownEmpty, x -> x.sum(0, 1, 4, 1));
        b.refused(UNSUPPORTED, "a bound of -10000", PlanesBoundary::grownBelow, x -> x.sum(6, 1, 2, 1));
        b.refused(UNSUPPORTED, "a bound of 2 times 9999", PlanesBoundary::grownEmpty, x -> x.sum(4, 1, 4, 1));
        b.refused(UNSUPPORTED, "a bound of 18 times 9999", PlanesBoundary::grownEmpty, x -> x.sum(4, 9, 4, 9));
        b.refused(UNSUPPORTED, "a bound of -18 times 9999", PlanesBoundary::grownBelow, x -> x.sum(6, 9, 6, 9));
        numbers(b, "a bound of 9999 and of -9999", PlanesBoundary::balanced, 12, 0, 0, 0, 0, 0, 0, 0);
        b.allowed(13, "9 times both, that is 0", PlanesBoundary::balanced, x -> x.sum(4, 9, 11, 9));
        b.allowed(5, "9 times 1089 and 2 times 99", PlanesBoundary::grownEmpty, x -> x.sum(3, 9, 2, 2));
        b.refused(UNSUPPORTED, "9 times 1089 and 3 times 99", PlanesBoundary::grownEmpty, x -> x.sum(3, 9, 2, 3));
    }

    /** That nothing is at least 9999, as the plane 4, at least -9999, as the plane 11, and the sum of both. */
    private static Proofweigh balanced() {
        Proofweigh x = grownEmpty();
        x.bound(0, false);
        x.bound(0, true);
        x.sum(5, 1, 6, 1);
        x.sum(7, 9, 7, 2);
        x.sum(8, 1, 8, 8);
        x.sum(9, 9, 9, 2);
        x.sum(10, 9, 9, 2);
        x.sum(4, 1, 11, 1);
        return x;
    }

    private static void sumRefused(Boundary b) {
        b.sentence(33, "IndexOutOfBoundsException if there is no such plane, for either");
        b.refused(INDEX, "sum(0, 1, 0, 1) of nothing", States::contrary, x -> x.sum(0, 1, 0, 1));
        b.refusedBeyond(0, 2, INDEX, "sum(#, 1, 0, 1)", States::mixed, (x, k) -> x.sum(k, 1, 0, 1));
        b.refusedBeyond(0, 2, INDEX, "sum(0, 1, #, 1)", States::mixed, (x, k) -> x.sum(0, 1, k, 1));
        b.refusedBeyond(0, 2, INDEX, "sum(#, 1, #, 1)", States::mixed, (x, k) -> x.sum(k, 1, k, 1));
        b.refusedBeyond(0, 78, INDEX, "sum(#, 1, 0, 1)", () -> States.planesLeft(1), (x, k) -> x.sum(k, 1, 0, 1));
        b.refusedBeyond(0, 79, INDEX, "sum(0, 1, #, 1)", States::full, (x, k) -> x.sum(0, 1, k, 1));
        b.sentence(33, "IllegalArgumentException if a number is out of range");
        b.refusedBeyond(1, 9, ARGUMENT, "sum(0, #, 1, 1)", States::mixed, (x, k) -> x.sum(0, k, 1, 1));
        b.refusedBeyond(1, 9, ARGUMENT, "sum(0, 1, 1, #)", States::mixed, (x, k) -> x.sum(0, 1, 1, k));
        b.refusedBeyond(1, 9, ARGUMENT, "sum(0, #, 0, #)", States::mixed, (x, k) -> x.sum(0, k, 0, k));
        b.sentence(33, "IllegalStateException if there are 80");
        b.allowed(79, "sum(0, 1, 1, 1) when there are 79", () -> States.planesLeft(1), x -> x.sum(0, 1, 1, 1));
        b.refused(STATE, "sum(0, 1, 1, 1) when there are 80", States::fullOfPlanes, x -> x.sum(0, 1, 1, 1));
        b.refused(STATE, "sum(79, 9, 79, 9) when all is full", States::full, x -> x.sum(79, 9, 79, 9));
    }

    /** The last plane has x0 so many times, and this bound. */
    private static Proofweigh made(int coefficient, int bound) {
        Proofweigh x = planesOf(2, 0);
        x.bound(0, false);
        x.bound(0, true);
        int lower = x.sum(1, 1, 2, 1);
        int denied = x.sum(2, 1, 0, 1);
        int last = x.sum(0, 1, lower, 1);
        for (int time = 0; time < Math.abs(coefficient); time++) {
            last = x.sum(last, 1, coefficient > 0 ? 1 : denied, 1);
        }
        for (int time = 0; time < Math.abs(bound); time++) {
            last = x.sum(last, 1, bound > 0 ? 0 : lower, 1);
        }
        return x;
    }

    /** Expects what a plane of a coefficient and a bound becomes by dividing. */
    private static void divided(Boundary b, int coefficient, int bound, int by, int dueCoefficient, int dueBound) {
        String name = coefficient + " and " + bound + " divided by " + by;
        Boundary.Made made = () -> {
            Proofweigh x = made(coefficient, bound);
            x.divide(x.planes() - 1, by);
            return x;
        };
        b.allowed(bound, name + ": the bound before", made, x -> x.planeAt(x.planes() - 2, -1));
        b.allowed(coefficient, name + ": the coefficient before", made, x -> x.planeAt(x.planes() - 2, 0));
        b.allowed(dueBound, name + ": the bound", made, x -> x.planeAt(x.planes() - 1, -1));
        b.allowed(dueCoefficient, name + ": the coefficient", made, x -> x.planeAt(x.planes() - 1, 0));
    }

    private static void divide(Boundary b) {
        b.sentence(TERMS, "one whose coefficients are all multiples of a number divided by it, the bound rounded up.");
        for (int[] row : new int[][] {
            {2, 1, 2, 1, 1}, {2, 2, 2, 1, 1}, {2, 3, 2, 1, 2}, {2, 0, 2, 1, 0}, {2, -1, 2, 1, 0}, {2, -2, 2, 1, -1},
            {2, -3, 2, 1, -1}, {-2, 1, 2, -1, 1}, {-2, -1, 2, -1, 0}, {-2, -3, 2, -1, -1}, {-2, -4, 2, -1, -2},
            {3, 1, 3, 1, 1}, {3, 2, 3, 1, 1}, {3, 4, 3, 1, 2}, {3, -1, 3, 1, 0}, {3, -2, 3, 1, 0}, {3, -3, 3, 1, -1},
            {3, -4, 3, 1, -1}, {-6, -5, 3, -2, -1}, {0, 1, 99, 0, 1}, {0, -1, 99, 0, 0}, {0, 0, 99, 0, 0}, {4, 5, 2, 2, 3}
        }) {
            divided(b, row[0], row[1], row[2], row[3], row[4]);
        }
        b.sentence(34, "by: the number, 2 to 99");
        for (int by = 2; by <= 99; by++) {
            int number = by;
            b.allowed(1, "a bound of 1 divided by " + number, () -> planesOf(6, 0), x -> x.divide(0, number));
            b.allowed(1, "planeAt(1, -1)", () -> planesOf(6, 0), x -> x.divide(0, number) - 1 + x.planeAt(1, -1));
        }
        b.allowed(101, "9999 divided by 99", PlanesBoundary::grownEmpty, x -> x.divide(4, 99) - 5 + x.planeAt(5, -1));
        b.allowed(-101, "-9999 divided by 99", PlanesBoundary::grownBelow, x -> x.divide(6, 99) - 7 + x.planeAt(7, -1));
        b.allowed(5000, "9999 divided by 2", PlanesBoundary::grownEmpty, x -> x.divide(4, 2) - 5 + x.planeAt(5, -1));
        b.allowed(-4999, "-9999 divided by 2", PlanesBoundary::grownBelow, x -> x.divide(6, 2) - 7 + x.planeAt(7, -1));
        b.allowed(11, "99 divided by 9", () -> grownBound(1, 0, false), x -> x.divide(2, 9) - 5 + x.planeAt(5, 0));
        b.allowed(-1, "-99 divided by 99", () -> grownBound(6, 5, true), x -> x.divide(2, 99) - 5 + x.planeAt(5, 5));
        b.sentence(34, "plane: the plane");
        b.allowed(1, "divide(0, 2)", () -> planesOf(1, 0), x -> x.divide(0, 2));
        b.allowed(3, "divide(2, 2) of the last one", () -> planesOf(1, 1, 2, 0), x -> x.divide(2, 2));
        b.sentence(34, "Returns its number.");
        Proofweigh x = planesOf(1, 0);
        for (int plane = 1; plane < 80; plane++) {
            int number = plane;
            b.due(number, "divide(" + (number - 1) + ", 2)", () -> x.divide(number - 1, 2));
        }
    }

    private static void divideRefused(Boundary b) {
        b.sentence(34, "IndexOutOfBoundsException if there is no such plane");
        b.refused(INDEX, "divide(0, 2) of nothing", States::contrary, x -> x.divide(0, 2));
        b.refusedBeyond(0, 2, INDEX, "divide(#, 2)", States::mixed, (x, k) -> x.divide(k, 2));
        b.refusedBeyond(0, 79, INDEX, "divide(#, 2)", States::full, (x, k) -> x.divide(k, 2));
        b.sentence(34, "IllegalArgumentException if a number is out of range");
        b.refusedBeyond(2, 99, ARGUMENT, "divide(0, #)", () -> planesOf(6, 0), (x, k) -> x.divide(0, k));
        b.refusedBeyond(2, 99, ARGUMENT, "divide(0, #)", States::mixed, (x, k) -> x.divide(0, k));
        b.refused(ARGUMENT, "divide(0, -2)", () -> planesOf(6, 0), x -> x.divide(0, -2));
        b.refused(ARGUMENT, "divide(0, -1)", () -> planesOf(6, 0), x -> x.divide(0, -1));
        b.sentence(34, "UnsupportedOperationException if a coefficient is no multiple of it");
        for (int variable = 0; variable < 6; variable++) {
            int asked = variable;
            b.refused(UNSUPPORTED, "1 by 2", () -> bounds(6, asked, false), x -> x.divide(0, 2));
            b.refused(UNSUPPORTED, "-1 by 2", () -> bounds(6, asked, true), x -> x.divide(0, 2));
            b.refused(UNSUPPORTED, "1 by 99", () -> bounds(6, asked, false), x -> x.divide(0, 99));
            b.refused(UNSUPPORTED, "99 by 98", () -> grownBound(6, asked, false), x -> x.divide(2, 98));
            b.refused(UNSUPPORTED, "-9999 by 2", () -> grownBound(6, asked, true), x -> x.divide(4, 2));
        }
        b.refused(UNSUPPORTED, "one of two is no multiple", () -> both(2, 3), x -> x.divide(2, 2));
        b.refused(UNSUPPORTED, "the other of two is no multiple", () -> both(3, 2), x -> x.divide(2, 2));
        b.refused(UNSUPPORTED, "a multiple of 2, by 4", () -> both(2, 2), x -> x.divide(2, 4));
        b.sentence(34, "IllegalStateException if there are 80");
        b.allowed(79, "divide(0, 2) when there are 79", () -> emptyPlanes(79), x -> x.divide(0, 2));
        b.refused(STATE, "divide(0, 2) when there are 80", () -> emptyPlanes(80), x -> x.divide(0, 2));
        b.refused(STATE, "divide(79, 99) when there are 80", () -> emptyPlanes(80), x -> x.divide(79, 99));
    }

    private static Proofweigh emptyPlanes(int many) {
        Proofweigh x = Check.formula(1, 0);
        for (int plane = 0; plane < many; plane++) {
            x.plane(0);
        }
        return x;
    }

    private static void planeAt(Boundary b) {
        b.sentence(35, "plane: the plane");
        b.allowedFrom(0, "planeAt(#, -1)", States::mixed, (x, k) -> x.planeAt(k, -1), 0, -1, -3);
        b.allowed(-1, "planeAt(78, -1)", States::full, x -> x.planeAt(78, -1));
        b.allowed(1, "planeAt(79, 1)", States::full, x -> x.planeAt(79, 1));
        b.sentence(35, "variable: the variable, or -1 for the bound");
        b.allowedFrom(-1, "planeAt(2, #)", States::mixed, (x, k) -> x.planeAt(2, k), -3, 2, -2, -3);
        b.allowedFrom(-1, "planeAt(0, #)", () -> planesOf(6, 2 + 27 + 243), (x, k) -> x.planeAt(0, k), 0, -1, 0, 0, 1, 0, 1);
        b.allowedFrom(-1, "planeAt(0, #)", () -> planesOf(1, 0), (x, k) -> x.planeAt(0, k), 1, 0);
        b.sentence(35, "IndexOutOfBoundsException if there is no such plane");
        b.refused(INDEX, "planeAt(0, -1) of nothing", States::contrary, x -> x.planeAt(0, -1));
        b.refusedBeyond(0, 2, INDEX, "planeAt(#, 0)", States::mixed, (x, k) -> x.planeAt(k, 0));
        b.refusedBeyond(0, 2, INDEX, "planeAt(#, -1)", States::mixed, (x, k) -> x.planeAt(k, -1));
        b.refusedBeyond(0, 79, INDEX, "planeAt(#, -1)", States::full, (x, k) -> x.planeAt(k, -1));
        b.sentence(35, "IllegalArgumentException if there is no such variable");
        for (int variables = 1; variables <= 6; variables++) {
            int many = variables;
            b.refusedBeyond(-1, many - 1, ARGUMENT, "planeAt(0, #)", () -> planesOf(many, 0), (x, k) -> x.planeAt(0, k));
        }
        b.refusedBeyond(-1, 2, ARGUMENT, "planeAt(2, #)", States::mixed, (x, k) -> x.planeAt(2, k));
        b.sentence(38, "Returns how many planes there are.");
        b.allowed(0, "planes() of nothing", States::empty, x -> x.planes());
        b.allowed(1, "planes() of one", () -> planesOf(1, 0), x -> x.planes());
        b.allowed(80, "planes() of 80", States::full, x -> x.planes());
        b.allowed(80, "planes() after what was refused", States::full, x -> {
            Check.answerOf(() -> x.bound(0, true));
            return x.planes();
        });
        b.allowed(0, "planes() after clear()", States::full, x -> x.clear() - 32 + x.planes());
    }

    private static void refutes(Boundary b) {
        b.sentence(TERMS, "It refutes if all coefficients are 0, and the bound is above 0.");
        b.allowed(true, "a bound of 1", () -> planesOf(6, 0), x -> x.refutes(0));
        b.allowed(true, "a bound of 9999", PlanesBoundary::grownEmpty, x -> x.refutes(4));
        b.allowed(false, "a bound of 0", PlanesBoundary::balanced, x -> x.refutes(12));
        b.allowed(false, "a bound of -1", PlanesBoundary::balanced, x -> x.refutes(7));
        b.allowed(false, "a bound of -9999", PlanesBoundary::grownBelow, x -> x.refutes(6));
        for (int variable = 0; variable < 6; variable++) {
            int power = (int) Math.pow(3, variable);
            b.allowed(false, "a coefficient of 1, a bound of 1", () -> planesOf(6, power), x -> x.refutes(0));
            b.allowed(false, "a coefficient of -1, a bound of 1", () -> against(power), x -> x.refutes(3));
            b.allowed(true, "a coefficient of 0, a bound of 1", () -> against(power), x -> x.refutes(4));
        }
        b.sentence(36, "plane: the plane");
        b.allowed(false, "refutes(0)", States::mixed, x -> x.refutes(0));
        b.allowed(false, "refutes(2)", States::mixed, x -> x.refutes(2));
        b.allowed(true, "refutes(79)", () -> emptyPlanes(80), x -> x.refutes(79));
        b.sentence(36, "IndexOutOfBoundsException if there is no such plane");
        b.refused(INDEX, "refutes(0) of nothing", States::contrary, x -> x.refutes(0));
        b.refusedBeyond(0, 2, INDEX, "refutes(#)", States::mixed, (x, k) -> x.refutes(k));
        b.refusedBeyond(0, 79, INDEX, "refutes(#)", () -> emptyPlanes(80), (x, k) -> x.refutes(k));
    }

    /** A variable denied, the empty clause, the variable; the sums of the first one and each of the others. */
    private static Proofweigh against(int power) {
        Proofweigh x = planesOf(6, 2 * power, 0, power);
        x.sum(0, 1, 1, 1);
        x.sum(0, 1, 2, 1);
        return x;
    }

    private static void toPlanes(Boundary b) {
        b.sentence(37, "Returns how many planes there are.");
        b.allowed(1, "toPlanes() of the empty clause", () -> proved(1, 0), x -> x.toPlanes());
        b.allowed(4, "toPlanes() of three lines", States::ended, x -> x.toPlanes());
        b.allowed(10, "toPlanes() of seven lines, and two that are not needed", States::mixed, x -> x.toPlanes());
        b.allowed(4, "planes() of three lines", States::ended, x -> x.toPlanes() - 4 + x.planes());
        b.sentence(TERMS, "To move a proof into planes takes all planes away");
        b.allowed(1, "toPlanes() when there are 80", () -> {
            Proofweigh x = emptyPlanes(80);
            x.line(0);
            return x;
        }, x -> x.toPlanes());
        b.allowed(10, "toPlanes() when all is full", States::full, x -> x.toPlanes());
        b.allowed(INDEX, "planeAt(10, 0) after it", States::full, x -> x.toPlanes() + x.planeAt(10, 0));
        b.allowed(4, "toPlanes() again", States::ended, x -> x.toPlanes() - 4 + x.toPlanes());
        b.sentence(TERMS, "the sum of the plane so far and that it is at least 0, if the coefficient is above 0, else -1,"
                + " that plane coming first; then the last plane, divided by 2.");
        Boundary.Made above = () -> moved(proved(2, 4, 2, 6), 0, 1, 0, 3, 2, 1);
        b.allowed(9, "planes() with x1 once", above, x -> x.planes());
        numbers(b, "the clause x1 denied", above, 2, 0, 0, -1);
        numbers(b, "the sum, with x1 once", above, 3, 1, 0, 1);
        numbers(b, "that x1 is at least 0", above, 4, 0, 0, 1);
        numbers(b, "the sum of both", above, 5, 1, 0, 2);
        numbers(b, "it divided by 2", above, 6, 1, 0, 1);
        numbers(b, "the sum of the end", above, 7, 1, 0, 0);
        numbers(b, "the end", above, 8, 1, 0, 0);
        Boundary.Made below = () -> moved(proved(2, 7, 2, 3), 0, 1, 0, 2, 3, 1);
        b.allowed(9, "planes() with x1 denied once", below, x -> x.planes());
        numbers(b, "the sum, with x1 denied once", below, 3, 0, 0, -1);
        numbers(b, "that x1 denied is at least -1", below, 4, -1, 0, -1);
        numbers(b, "the sum of both", below, 5, -1, 0, -2);
        numbers(b, "it divided by 2", below, 6, 0, 0, -1);
        numbers(b, "the end", below, 8, 1, 0, 0);
    }

    /** All clauses of a formula as its lines. */
    private static Proofweigh proved(int variables, int... clauses) {
        Proofweigh x = Check.formula(variables, clauses);
        Check.putAll(x);
        return x;
    }

    /** Two resolvents, each by two lines and a variable, and the planes of them. */
    private static Proofweigh moved(Proofweigh x, int... steps) {
        x.resolve(steps[0], steps[1], steps[2]);
        x.resolve(steps[3], steps[4], steps[5]);
        x.toPlanes();
        return x;
    }

    /**
     * A proof of 49 planes and more: all denied, x0 by four others, x1 to x4, and x5 or x5 by two.
     *
     * @param isX1Made whether x1 is made of x1 or x2 denied, which takes 4 planes more
     * @param isX5Made whether x5 is made of two clauses, which takes 3 planes more
     */
    private static Proofweigh large(boolean isX1Made, boolean isX5Made) {
        int x0ByFour = 1 + 6 + 18 + 54 + 162;
        Proofweigh x = Check.formula(6, 728, x0ByFour, isX1Made ? 3 + 18 : 3, 9, 27, 81, 243, 243 + 1, 243 + 2);
        x.line(0);
        x.line(1);
        int[] units = new int[6];
        units[1] = x.line(2);
        units[2] = x.line(3);
        units[3] = x.line(4);
        units[4] = x.line(5);
        if (isX1Made) {
            units[1] = x.resolve(units[2], units[1], 2);
        }
        if (isX5Made) {
            int one = x.line(7);
            units[5] = x.resolve(one, x.line(8), 0);
        } else {
            units[5] = x.line(6);
        }
        units[0] = 1;
        for (int variable = 1; variable <= 4; variable++) {
            units[0] = x.resolve(units[variable], units[0], variable);
        }
        int last = 0;
        for (int variable = 0; variable < 6; variable++) {
            last = x.resolve(units[variable], last, variable);
        }
        return x;
    }

    private static void toPlanesRefused(Boundary b) {
        b.sentence(37, "IllegalStateException if there would be more than 80");
        b.allowed(77, "toPlanes() of 77", () -> large(false, false), x -> x.toPlanes());
        b.allowed(80, "toPlanes() of 80", () -> large(false, true), x -> x.toPlanes());
        b.allowed(true, "refutes(79) then", () -> large(false, true), x -> x.toPlanes() == 80 && x.refutes(79));
        b.refused(STATE, "toPlanes() of 81", () -> large(true, false), x -> x.toPlanes());
        b.refused(STATE, "toPlanes() of 84", () -> large(true, true), x -> x.toPlanes());
        b.refused(STATE, "toPlanes() of 81, with planes before", () -> {
            Proofweigh x = large(true, false);
            x.plane(0);
            x.bound(5, true);
            return x;
        }, x -> x.toPlanes());
        b.allowed(80, "toPlanes() of 80 again", () -> large(false, true), x -> x.toPlanes() - 80 + x.toPlanes());
        b.allowed(80, "toPlanes() of 80, and lines that are not needed", () -> {
            Proofweigh x = large(false, true);
            for (int line = 0; line < 10; line++) {
                x.line(0);
            }
            return x;
        }, x -> x.toPlanes());
        LinesBoundary.wantsEnd(b, 37, "toPlanes()", x -> x.toPlanes());
    }
}
