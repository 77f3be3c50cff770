/** The boundaries of the promises 42 and 43: what lies between two sides. */
final class BetweenBoundary {
    private static final Class<?> ARGUMENT = Check.ARGUMENT;
    private static final Class<?> INDEX = Check.INDEX;
    private static final int TERMS = Boundary.TERMS;

    private BetweenBoundary() {}

    static void check(Boundary b) {
        side(b);
        sideRefused(b);
        clauses(b);
        values(b);
        variables(b);
        LinesBoundary.wantsEnd(b, 43, "between()", x -> x.between());
    }

    private static void side(Boundary b) {
        b.sentence(42, "clause: the number of the clause in the formula");
        b.allowed(0, "side(0, 1)", States::contrary, x -> x.side(0, 1));
        b.allowed(0, "side(1, 1)", States::contrary, x -> x.side(1, 1));
        b.allowed(0, "side(30, 1) of 32", States::full, x -> x.side(30, 1));
        b.allowed(1, "side(31, 1) of 32", States::full, x -> x.side(31, 1));
        b.sentence(42, "side: 0 or 1");
        b.allowed(0, "side(0, 0) after 1", () -> sided(States.contrary(), 0), x -> x.side(0, 0) - 1);
        b.allowed(0, "side(0, 0) after 0", States::contrary, x -> x.side(0, 0));
        b.allowed(1, "side(0, 1) after 1", () -> sided(States.contrary(), 0), x -> x.side(0, 1));
        b.allowed(0, "side(0, 1) after 0", States::contrary, x -> x.side(0, 1));
        b.sentence(42, "Returns the one before.");
        Proofweigh x = States.contrary();
        int before = 0;
        for (int side : new int[] {0, 0, 1, 1, 0, 1, 0, 0}) {
            b.due(before, "side(1, " + side + ")", () -> x.side(1, side));
            before = side;
        }
        b.due(0, "side(0, 0), of the other one", () -> x.side(0, 0));
        b.sentence(TERMS, "Each clause of the formula is on the side 0 or 1, 0 at first.");
        for (int clause = 0; clause < 31; clause++) {
            int asked = clause;
            b.allowed(0, "side(" + asked + ", 1) at first", () -> States.fullOfClauses(1), y -> y.side(asked, 1));
        }
        b.allowed(0, "side(0, 1) after clear()", () -> again(1), y -> y.side(0, 1));
        b.allowed(0, "side(31, 1) after clear()", () -> again(32), y -> y.side(31, 1));
        b.allowed(1, "side(0, 0) after add(0)", () -> sided(States.contrary(), 0), y -> y.add(0) - 2 + y.side(0, 0));
    }

    /** All clauses on the side 1, then cleared, and so many added. */
    private static Proofweigh again(int many) {
        Proofweigh x = States.fullOfClauses(2);
        for (int clause = 0; clause < 32; clause++) {
            x.side(clause, 1);
        }
        x.clear();
        for (int clause = 0; clause < many; clause++) {
            x.add(1);
        }
        return x;
    }

    /** Some clauses moved to the side 1. */
    private static Proofweigh sided(Proofweigh x, int... clauses) {
        for (int clause : clauses) {
            x.side(clause, 1);
        }
        return x;
    }

    private static void sideRefused(Boundary b) {
        b.sentence(42, "IndexOutOfBoundsException if there is no such clause");
        b.refused(INDEX, "side(0, 0) of nothing", States::empty, x -> x.side(0, 0));
        b.refusedBeyond(0, 4, INDEX, "side(#, 1)", States::mixed, (x, k) -> x.side(k, 1));
        b.refusedBeyond(0, 31, INDEX, "side(#, 0)", States::full, (x, k) -> x.side(k, 0));
        b.sentence(42, "IllegalArgumentException if there is no such side");
        b.refusedBeyond(0, 1, ARGUMENT, "side(0, #)", States::mixed, (x, k) -> x.side(0, k));
        b.refusedBeyond(0, 1, ARGUMENT, "side(1, #)", States::mixed, (x, k) -> x.side(1, k));
        b.refusedBeyond(0, 1, ARGUMENT, "side(31, #)", States::full, (x, k) -> x.side(31, k));
    }

    private static void clauses(Boundary b) {
        b.sentence(TERMS, "of a clause of the side 0: false; of the side 1: true");
        long[] all = {3L, 15L, 255L, 65535L, 4294967295L, -1L};
        for (int variables = 1; variables <= 6; variables++) {
            int many = variables;
            b.allowed(0L, "the empty clause of the side 0", () -> emptyLine(many), x -> x.between());
            b.allowed(all[many - 1], "the empty clause of the side 1, in " + many, () -> sided(emptyLine(many), 1),
                    x -> x.between());
        }
        b.allowed(0L, "two empty clauses, the first line of the side 0", () -> sided(twoEmpty(), 1), x -> x.between());
        b.allowed(3L, "two empty clauses, the first line of the side 1", () -> sided(twoEmpty(), 0), x -> x.between());
    }

    /** All variables, then the empty clause, which is the only line. */
    private static Proofweigh emptyLine(int variables) {
        Proofweigh x = Check.formula(variables, ((int) Math.pow(3, variables) - 1) / 2, 0);
        x.line(1);
        return x;
    }

    private static Proofweigh twoEmpty() {
        Proofweigh x = Check.formula(1, 0, 0);
        Check.putAll(x);
        return x;
    }

    /** The clause that just some values make false, then their variables one by one as they are, peeled off. */
    private static Proofweigh barred(int variables, int values, boolean isClauseOfOne) {
        int[] units = new int[variables];
        int wide = 0;
        int power = 1;
        for (int variable = 0; variable < variables; variable++) {
            int isTrue = values >> variable & 1;
            wide += (1 + isTrue) * power;
            units[variable] = (2 - isTrue) * power;
            power *= 3;
        }
        Proofweigh x = Check.formula(variables, wide);
        x.side(0, isClauseOfOne ? 1 : 0);
        int last = x.line(0);
        for (int variable = 0; variable < variables; variable++) {
            int unit = x.add(units[variable]);
            x.side(unit, isClauseOfOne ? 0 : 1);
            int line = x.line(unit);
            boolean isTrue = (values >> variable & 1) != 0;
            last = x.resolve(isTrue ? line : last, isTrue ? last : line, variable);
        }
        return x;
    }

    private static void values(Boundary b) {
        b.sentence(43, "Returns the sum of 2 to the power of each values for which it is true; for 63 the highest bit.");
        for (int values = 0; values < 64; values++) {
            int asked = values;
            b.allowed(1L << asked, "just the values " + asked, () -> barred(6, asked, true), x -> x.between());
            b.allowed(~(1L << asked), "all but the values " + asked, () -> barred(6, asked, false), x -> x.between());
        }
        b.allowed(Long.MIN_VALUE, "just the values 63", () -> barred(6, 63, true), x -> x.between());
        b.allowed(Long.MAX_VALUE, "all but the values 63", () -> barred(6, 63, false), x -> x.between());
        b.allowed(1L, "just the values 0", () -> barred(6, 0, true), x -> x.between());
        b.allowed(2147483648L, "just the values 31, the last ones of five", () -> barred(5, 31, true), x -> x.between());
        b.allowed(2147483647L, "all but these", () -> barred(5, 31, false), x -> x.between());
        b.allowed(4294967294L, "all but 0, of five", () -> barred(5, 0, false), x -> x.between());
        b.allowed(2L, "just the values 1, the last ones of one", () -> barred(1, 1, true), x -> x.between());
        b.allowed(1L, "all but these", () -> barred(1, 1, false), x -> x.between());
        long[] trues = {0xAAAAAAAAAAAAAAAAL, 0xCCCCCCCCCCCCCCCCL, 0xF0F0F0F0F0F0F0F0L, 0xFF00FF00FF00FF00L,
            0xFFFF0000FFFF0000L, 0xFFFFFFFF00000000L};
        for (int variable = 0; variable < 6; variable++) {
            int asked = variable;
            b.allowed(trues[asked], "a variable and it denied on the side 1", () -> sided(pair(asked), 1), x -> x.between());
            b.allowed(~trues[asked], "it denied, and it on the side 1", () -> sided(pair(asked), 0), x -> x.between());
        }
    }

    /** A variable of six, and it denied, resolved. */
    private static Proofweigh pair(int variable) {
        int power = (int) Math.pow(3, variable);
        Proofweigh x = Check.formula(6, power, 2 * power);
        Check.putAll(x);
        x.resolve(0, 1, variable);
        return x;
    }

    /** x0 or x1, x0 denied or x2, x1 denied, x2 denied, and x0, which is no line; x0 is resolved last. */
    private static Proofweigh parts(int... sides) {
        int[] clauses = {1 + 3, 2 + 9, 6, 18, 1};
        Proofweigh x = Check.formula(3);
        for (int clause = 0; clause < sides.length; clause++) {
            x.add(clauses[clause]);
            x.side(clause, sides[clause]);
        }
        for (int clause = 0; clause < 4; clause++) {
            x.line(clause);
        }
        x.resolve(0, 2, 1);
        x.resolve(1, 3, 2);
        x.resolve(4, 5, 0);
        return x;
    }

    private static void variables(Boundary b) {
        b.sentence(TERMS, "of a resolvent by a variable of the side 0: one of both; of the side 1: both; by a shared one: what"
                + " the first line tells where it is false, and what the other one tells where it is true.");
        b.allowed(0b11111100L, "x0 of the side 0: x1 or x2", () -> parts(0, 0, 1, 1), x -> x.between());
        b.allowed(0b00000011L, "x0 of the side 1: neither", () -> parts(1, 1, 0, 0), x -> x.between());
        b.allowed(0b11101110L, "x0 shared by both lines: x1, or all", () -> parts(0, 1, 1, 1), x -> x.between());
        b.allowed(0b00010001L, "x0 shared by both lines: not x1, or nothing", () -> parts(1, 0, 0, 0), x -> x.between());
        b.allowed(0L, "all of the side 0", () -> parts(0, 0, 0, 0), x -> x.between());
        b.allowed(0b11111111L, "all of the side 1", () -> parts(1, 1, 1, 1), x -> x.between());
        b.sentence(TERMS, "A variable is of a side if it is in clauses of this one alone; in both, it is shared.");
        b.allowed(0b11111100L, "x0 in one more of the side 0", () -> parts(0, 0, 1, 1, 0), x -> x.between());
        b.allowed(0b11100100L, "x0 in one of the side 1 that is no line", () -> parts(0, 0, 1, 1, 1), x -> x.between());
        b.allowed(0b00000011L, "x0 in one more of the side 1", () -> parts(1, 1, 0, 0, 1), x -> x.between());
        b.allowed(0b00011011L, "x0 in one of the side 0 that is no line", () -> parts(1, 1, 0, 0, 0), x -> x.between());
        b.allowed(0b11111100L, "x0 in one that was moved back", () -> parts(0, 0, 1, 1, 1), x -> x.side(4, 0) - 1 + x.between());
        b.allowed(0b11100100L, "x0 in one that was moved", () -> parts(0, 0, 1, 1, 0), x -> x.side(4, 1) + x.between());
        b.allowed(0b00011011L, "x0 denied in one added later", () -> parts(1, 1, 0, 0), x -> x.add(2) - 4 + x.between());
    }
}
