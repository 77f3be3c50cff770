/** The boundaries of the promises 39 to 41: polynomials. */
final class PolynomialsBoundary {
    private static final Class<?> ARGUMENT = Check.ARGUMENT;
    private static final Class<?> INDEX = Check.INDEX;
    private static final int TERMS = Boundary.TERMS;
    private static final int[] PRIMES = {2, 3, 5, 7};
    private static final int[] NO_PRIMES = {
        Boundary.MIN, -7, -5, -3, -2, -1, 0, 1, 4, 6, 8, 9, 10, 11, 13, 49, 258, 65538, Boundary.MAX
    };

    private PolynomialsBoundary() {}

    static void check(Boundary b) {
        term(b);
        termNumbers(b);
        termRefused(b);
        staticDegree(b);
        degree(b);
        degreesRefused(b);
    }

    private static void term(Boundary b) {
        b.sentence(39, "clause: the number of the clause in the formula");
        b.allowed(1, "term(0, 2, 1)", States::contrary, x -> x.term(0, 2, 1));
        b.allowed(0, "term(1, 2, 0)", States::contrary, x -> x.term(1, 2, 0));
        b.allowed(6, "term(31, 7, 1)", () -> States.fullOfClauses(6), x -> x.term(31, 7, 1));
        b.sentence(39, "prime: 2, 3, 5 or 7");
        for (int prime : PRIMES) {
            b.allowed(1, "term(0, " + prime + ", 0) of x0", () -> Check.formula(1, 1), x -> x.term(0, prime, 0));
            b.allowed(prime - 1, "term(0, " + prime + ", 1) of x0", () -> Check.formula(1, 1), x -> x.term(0, prime, 1));
        }
        b.sentence(39, "set: the set of variables, as the sum of 2 to the power of each");
        for (int variables = 1; variables <= 6; variables++) {
            int many = variables;
            int last = (1 << many) - 1;
            int widest = (int) Math.pow(3, many) - 1;
            b.allowed(0, "term(0, 3, 0) of all denied", () -> Check.formula(many, widest), x -> x.term(0, 3, 0));
            b.allowed(1, "term(0, 3, " + last + ") of all denied", () -> Check.formula(many, widest), x -> x.term(0, 3, last));
            b.allowed(1, "term(0, 3, 0) of all", () -> Check.formula(many, widest / 2), x -> x.term(0, 3, 0));
            b.allowed(many % 2 == 0 ? 1 : 2, "term(0, 3, " + last + ") of all", () -> Check.formula(many, widest / 2),
                    x -> x.term(0, 3, last));
            b.allowed(0, "term(0, 3, " + last + ") of the empty clause", () -> Check.formula(many, 0), x -> x.term(0, 3, last));
        }
    }

    private static void termNumbers(Boundary b) {
        b.sentence(39, "Returns the number, from 0.");
        for (int prime : PRIMES) {
            for (int set = 0; set < 64; set++) {
                int asked = set;
                String call = "term(0, " + prime + ", " + set + ")";
                int sign = Integer.bitCount(set) % 2 == 0 ? 1 : prime - 1;
                b.allowed(sign, call + " of all six", () -> Check.formula(6, 364), x -> x.term(0, prime, asked));
                b.allowed(set == 63 ? 1 : 0, call + " of all six denied", () -> Check.formula(6, 728),
                        x -> x.term(0, prime, asked));
                b.allowed(set == 0 ? 1 : 0, call + " of the empty clause", () -> Check.formula(6, 0),
                        x -> x.term(0, prime, asked));
                b.allowed(set == 32 ? 1 : set == 33 ? prime - 1 : 0, call + " of x0 or x5 denied",
                        () -> Check.formula(6, 1 + 486), x -> x.term(0, prime, asked));
            }
        }
    }

    private static void termRefused(Boundary b) {
        b.sentence(39, "IndexOutOfBoundsException if there is no such clause");
        b.refused(INDEX, "term(0, 2, 0) of nothing", States::empty, x -> x.term(0, 2, 0));
        b.refusedBeyond(0, 4, INDEX, "term(#, 2, 0)", States::mixed, (x, k) -> x.term(k, 2, 0));
        b.refusedBeyond(0, 31, INDEX, "term(#, 7, 3)", States::full, (x, k) -> x.term(k, 7, 3));
        b.sentence(39, "IllegalArgumentException if there is no such prime or set");
        for (int prime : NO_PRIMES) {
            b.refused(ARGUMENT, "term(0, " + prime + ", 0)", States::mixed, x -> x.term(0, prime, 0));
        }
        for (int variables = 1; variables <= 6; variables++) {
            int many = variables;
            int last = (1 << many) - 1;
            b.refusedBeyond(0, last, ARGUMENT, "term(0, 2, #)", () -> Check.formula(many, 1), (x, k) -> x.term(0, 2, k));
        }
        b.refusedBeyond(0, 7, ARGUMENT, "term(4, 7, #)", States::mixed, (x, k) -> x.term(4, 7, k));
    }

    /** Expects a degree for all four primes, that of 2 by itself. */
    private static void same(Boundary b, String call, int ofTwo, int ofOthers, Boundary.Made made, Boundary.By by) {
        for (int prime : PRIMES) {
            b.allowed(prime == 2 ? ofTwo : ofOthers, call.replace("#", "" + prime), made, x -> by.answer(x, prime));
        }
    }

    private static Proofweigh ring(int vertices) {
        Proofweigh x = new Proofweigh();
        x.ring(vertices);
        return x;
    }

    private static void staticDegree(Boundary b) {
        Boundary.By asked = (x, prime) -> x.staticDegree(prime);
        b.sentence(40, "prime: 2, 3, 5 or 7");
        same(b, "staticDegree(#)", 1, 1, States::contrary, asked);
        same(b, "staticDegree(#) of a ring", 2, 3, () -> ring(3), asked);
        same(b, "staticDegree(#) of a lifted ring", 4, 6, TreesBoundary::lifted, asked);
        b.sentence(TERMS, "The static degree is the least d by which 1 is a sum of multiples of products of such a one and of"
                + " variables, its variables and these together being at most d");
        same(b, "staticDegree(#) of the empty clause", 0, 0, () -> Check.formula(1, 0), asked);
        same(b, "staticDegree(#) of it behind others", 0, 0, () -> Check.formula(6, 728, 1, 2, 0), asked);
        same(b, "staticDegree(#) of x0, x0 denied and wide ones", 1, 1, () -> Check.formula(6, 728, 364, 1, 2), asked);
        same(b, "staticDegree(#) of a square", 2, 2, States::square, asked);
        same(b, "staticDegree(#) of all of five", 5, 5, () -> TreesBoundary.all(5), asked);
        same(b, "staticDegree(#) of six", 6, 6, TreesBoundary::six, asked);
        same(b, "staticDegree(#) of 32 clauses, perhaps alike", 2, 2, States::full, asked);
    }

    private static void degree(Boundary b) {
        Boundary.By asked = (x, prime) -> x.degree(prime);
        b.sentence(41, "prime: 2, 3, 5 or 7");
        same(b, "degree(#)", 1, 1, States::contrary, asked);
        same(b, "degree(#) of a ring", 2, 2, () -> ring(3), asked);
        same(b, "degree(#) of a lifted ring", 4, 4, TreesBoundary::lifted, asked);
        b.sentence(TERMS, "the calculus degree is the least d by which 1 is come to from those with at most d variables by sums,"
                + " multiples, and products of one of a degree below d and a variable.");
        same(b, "degree(#) of the empty clause", 0, 0, () -> Check.formula(1, 0), asked);
        same(b, "degree(#) of it behind others", 0, 0, () -> Check.formula(6, 728, 1, 2, 0), asked);
        same(b, "degree(#) of x0, x0 denied and wide ones", 1, 1, () -> Check.formula(6, 728, 364, 1, 2), asked);
        same(b, "degree(#) of a square", 2, 2, States::square, asked);
        same(b, "degree(#) of a stair", 2, 2, () -> TreesBoundary.stair(6), asked);
        same(b, "degree(#) of all of five", 5, 5, () -> TreesBoundary.all(5), asked);
        same(b, "degree(#) of six", 6, 6, TreesBoundary::six, asked);
        same(b, "degree(#) of 32 clauses, perhaps alike", 2, 2, States::full, asked);
    }

    private static void degreesRefused(Boundary b) {
        b.sentence(40, "IllegalArgumentException if a number is out of range");
        for (int prime : NO_PRIMES) {
            b.refused(ARGUMENT, "staticDegree(" + prime + ")", States::mixed, x -> x.staticDegree(prime));
        }
        b.sentence(41, "IllegalArgumentException if a number is out of range");
        for (int prime : NO_PRIMES) {
            b.refused(ARGUMENT, "degree(" + prime + ")", States::mixed, x -> x.degree(prime));
        }
        b.sentence(40, "NoSuchElementException if some values keep all clauses");
        for (int prime : PRIMES) {
            TreesBoundary.wantsNoModel(b, "staticDegree(" + prime + ")", x -> x.staticDegree(prime));
        }
        b.sentence(41, "NoSuchElementException if some values keep all clauses");
        for (int prime : PRIMES) {
            TreesBoundary.wantsNoModel(b, "degree(" + prime + ")", x -> x.degree(prime));
        }
    }
}
