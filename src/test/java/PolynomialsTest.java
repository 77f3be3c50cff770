/** Promises 39 to 41: polynomials. */
public final class PolynomialsTest {
    private static final Check CHECK = new Check();
    private static final int[] PRIMES = {2, 3, 5, 7};
    private static final int[] NO_PRIMES = {-2, 0, 1, 4, 6, 8, 9, 11, Integer.MAX_VALUE};

    public static void main(String[] args) {
        promise39();
        promise39byValues();
        promises40and41();
        promises40and41edges();
        promise41rows();
        changes();
        CHECK.end("PolynomialsTest");
    }

    private static void promise39() {
        Proofweigh x = Check.formula(3, 1 + 6 + 9, 0);
        // 1 less x0, x1, 1 less x2: x1 - x0 x1 - x1 x2 + x0 x1 x2.
        int[] signs = {0, 0, 1, -1, 0, 0, -1, 1};
        for (int prime : PRIMES) {
            for (int set = 0; set < 8; set++) {
                int asked = set;
                CHECK.due("term(0, " + prime + ", " + set + ")", Math.floorMod(signs[set], prime),
                        () -> x.term(0, prime, asked));
                CHECK.due("term(1, " + prime + ", " + set + ")", set == 0 ? 1 : 0,
                        () -> x.term(1, prime, asked));
            }
        }
        CHECK.due("no such clause", Check.INDEX, () -> x.term(2, 2, 0));
        CHECK.due("a clause below 0", Check.INDEX, () -> x.term(-1, 2, 0));
        CHECK.due("no such clause before no such prime", Check.INDEX, () -> x.term(2, 4, 8));
        CHECK.due("no such set", Check.ARGUMENT, () -> x.term(0, 2, 8));
        CHECK.due("a set below 0", Check.ARGUMENT, () -> x.term(0, 2, -1));
        for (int prime : NO_PRIMES) {
            CHECK.due("no such prime " + prime, Check.ARGUMENT, () -> x.term(0, prime, 0));
        }
    }

    /** The polynomial is 1 for values that make the clause false, and else 0. */
    private static void promise39byValues() {
        for (int code = 0; code < 729; code += 7) {
            Proofweigh x = Check.formula(6, code);
            for (int values = 0; values < 64; values += 5) {
                int sum = 0;
                for (int set = 0; set < 64; set++) {
                    sum += (set & ~values) == 0 ? x.term(0, 5, set) : 0;
                }
                int asked = values;
                int due = sum % 5;
                CHECK.due("values " + values + " of clause " + code, due == 1 ? (Object) 0 : Check.ELEMENT,
                        () -> x.broken(asked));
                CHECK.due("0 or 1", true, () -> due == 0 || due == 1);
            }
        }
    }

    private static void dueDegrees(String name, Proofweigh x, int prime, int ofStatic, int ofCalculus) {
        CHECK.due(name + ": staticDegree(" + prime + ")", ofStatic, () -> x.staticDegree(prime));
        CHECK.due(name + ": degree(" + prime + ")", ofCalculus, () -> x.degree(prime));
    }

    private static void promises40and41() {
        Proofweigh x = new Proofweigh();
        x.holes(3, 2);
        for (int prime : PRIMES) {
            dueDegrees("holes(3, 2)", x, prime, 4, 3);
        }
        // Modulo 2 the sum of all vertices is 1.
        x.ring(6);
        dueDegrees("ring(6)", x, 2, 2, 2);
        dueDegrees("ring(6)", x, 3, 3, 2);
        dueDegrees("ring(6)", x, 7, 3, 2);
        x.stair(6);
        dueDegrees("stair(6)", x, 2, 3, 2);
        dueDegrees("stair(6)", x, 5, 3, 2);
        x.stair(1);
        dueDegrees("stair(1)", x, 3, 1, 1);
        Proofweigh y = Check.formula(3, 19, 8, 4, 21, 8, 15, 23, 26, 4, 11);
        dueDegrees("one drawn", y, 2, 2, 2);
        dueDegrees("one drawn", y, 3, 3, 2);
        CHECK.due("isTrue", true, y::isTrue);
        Proofweigh z = Check.formula(3, 13, 14, 16, 17, 22, 23, 25, 26);
        for (int prime : PRIMES) {
            dueDegrees("all of three", z, prime, 3, 3);
        }
    }

    private static void promises40and41edges() {
        Proofweigh x = Check.formula(6, 364, 0);
        for (int prime : PRIMES) {
            dueDegrees("the empty clause", x, prime, 0, 0);
        }
        Proofweigh y = Check.formula(2, 1, 5);
        for (int prime : PRIMES) {
            CHECK.due("staticDegree(" + prime + ") with a model", Check.ELEMENT, () -> y.staticDegree(prime));
            CHECK.due("degree(" + prime + ") with a model", Check.ELEMENT, () -> y.degree(prime));
        }
        for (int prime : NO_PRIMES) {
            CHECK.due("staticDegree(" + prime + ")", Check.ARGUMENT, () -> x.staticDegree(prime));
            CHECK.due("degree(" + prime + ")", Check.ARGUMENT, () -> x.degree(prime));
            CHECK.due("staticDegree(" + prime + ") before a model", Check.ARGUMENT, () -> y.staticDegree(prime));
            CHECK.due("degree(" + prime + ") before a model", Check.ARGUMENT, () -> y.degree(prime));
        }
        // Unlike the static one, the calculus needs the wide clause only where it is there.
        Proofweigh z = Check.formula(6, 364, 81, 162);
        dueDegrees("a wide clause that is not needed", z, 2, 1, 1);
    }

    /** Rows of steps whose variables do not rise: what comes first has to be multiplied by what comes next. */
    private static void promise41rows() {
        Proofweigh x = Check.formula(3, 3, 6 + 1, 2 + 9, 18);
        Proofweigh y = Check.formula(4, 9, 18 + 1, 2 + 3, 6 + 27, 54);
        Proofweigh z = Check.formula(6, 81, 162 + 1, 2 + 27, 54 + 3, 6 + 243, 486 + 9, 18);
        for (int prime : PRIMES) {
            dueDegrees("x1, x0, x2", x, prime, 2, 2);
            dueDegrees("x2, x0, x1, x3", y, prime, 3, 2);
            dueDegrees("x4, x0, x3, x1, x5, x2", z, prime, 3, 2);
        }
    }

    private static void changes() {
        Proofweigh x = Check.formula(3, 13, 14, 16, 17, 22, 23, 25, 26);
        dueDegrees("before", x, 2, 3, 3);
        x.add(1);
        x.add(2);
        dueDegrees("with both", x, 2, 1, 1);
        x.clear();
        CHECK.due("cleared", Check.ELEMENT, () -> x.degree(2));
        x.stair(6);
        dueDegrees("a stair", x, 2, 3, 2);
        // A term of another prime in between does not change what is found.
        CHECK.due("term", 6, () -> x.term(1, 7, 3));
        dueDegrees("a stair again", x, 5, 3, 2);
        CHECK.due("isTrue", true, x::isTrue);
    }
}
