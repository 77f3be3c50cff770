/** The boundaries of the promises 46 to 48: quantors and strategies. */
final class QuantorsBoundary {
    private static final Class<?> ARGUMENT = Check.ARGUMENT;
    private static final Class<?> ELEMENT = Check.ELEMENT;
    private static final int TERMS = Boundary.TERMS;

    private QuantorsBoundary() {}

    static void check(Boundary b) {
        quantor(b);
        quantorRefused(b);
        holds(b);
        strategy(b);
        strategyValues(b);
        strategyRefused(b);
        strategyNone(b);
    }

    /** A formula with some variables held by all values. */
    private static Proofweigh held(Proofweigh x, int... variables) {
        for (int variable : variables) {
            x.quantor(variable, 'a');
        }
        return x;
    }

    private static Proofweigh heldAll(int variables, int... clauses) {
        Proofweigh x = Check.formula(variables, clauses);
        for (int variable = 0; variable < variables; variable++) {
            x.quantor(variable, 'a');
        }
        return x;
    }

    private static void quantor(Boundary b) {
        b.sentence(46, "variable: the variable");
        for (int variables = 1; variables <= 6; variables++) {
            int many = variables;
            b.allowed('e', "quantor(0, 'a') of " + many, () -> Check.formula(many), x -> x.quantor(0, 'a'));
            b.allowed('e', "quantor(" + (many - 1) + ", 'a')", () -> Check.formula(many), x -> x.quantor(many - 1, 'a'));
            b.allowed('a', "quantor(" + (many - 1) + ", 'e')", () -> heldAll(many), x -> x.quantor(many - 1, 'e'));
        }
        b.sentence(46, "kind: 'e' or 'a'");
        b.allowed('e', "quantor(0, 'e') after 'e'", States::empty, x -> x.quantor(0, 'e'));
        b.allowed('e', "quantor(0, 'a') after 'e'", States::empty, x -> x.quantor(0, 'a'));
        b.allowed('a', "quantor(0, 'e') after 'a'", States::mixed, x -> x.quantor(0, 'e'));
        b.allowed('a', "quantor(0, 'a') after 'a'", States::mixed, x -> x.quantor(0, 'a'));
        b.sentence(46, "Returns the one before.");
        Proofweigh x = States.empty();
        char before = 'e';
        for (char kind : "eaaeaeea".toCharArray()) {
            char due = before;
            b.due(due, "quantor(5, '" + kind + "')", () -> x.quantor(5, kind));
            before = kind;
        }
        for (int variable = 0; variable < 5; variable++) {
            int asked = variable;
            b.due('e', "quantor(" + asked + ", 'a') of another one", () -> x.quantor(asked, 'a'));
        }
        b.sentence(TERMS, "Each variable is held by some value, 'e', at first, or by all values, 'a'");
        for (int variable = 0; variable < 6; variable++) {
            int asked = variable;
            b.allowed('e', "quantor(" + asked + ", 'e') at first", States::empty, y -> y.quantor(asked, 'e'));
            b.allowed('e', "quantor(" + asked + ", 'e') of a new formula", () -> heldAll(6, 1),
                    y -> y.variables(6) == 6 ? y.quantor(asked, 'e') : 'a');
            b.allowed('a', "quantor(" + asked + ", 'e') after clear()", () -> heldAll(6, 1),
                    y -> y.clear() == 1 ? y.quantor(asked, 'e') : 'e');
        }
    }

    private static void quantorRefused(Boundary b) {
        b.sentence(46, "IllegalArgumentException if there is no such variable or kind");
        for (int variables = 1; variables <= 6; variables++) {
            int many = variables;
            b.refusedBeyond(0, many - 1, ARGUMENT, "quantor(#, 'a')", () -> Check.formula(many), (x, k) -> x.quantor(k, 'a'));
            b.refusedBeyond(0, many - 1, ARGUMENT, "quantor(#, 'e')", () -> heldAll(many), (x, k) -> x.quantor(k, 'e'));
        }
        b.refused(ARGUMENT, "quantor(32, 'a'), 0 modulo 32", States::empty, x -> x.quantor(32, 'a'));
        b.refused(ARGUMENT, "quantor(3, 'a')", States::mixed, x -> x.quantor(3, 'a'));
        char[] kinds = {0, 1, ' ', 'A', 'E', '`', 'b', 'c', 'd', 'f', 'z', 'a' + 128, 'e' + 128, 'a' + 256, 'e' + 256, 0xFFFF};
        for (char kind : kinds) {
            b.refused(ARGUMENT, "quantor(1, (char) " + (int) kind + ")", States::mixed, x -> x.quantor(1, kind));
            b.refused(ARGUMENT, "quantor(0, (char) " + (int) kind + ")", States::mixed, x -> x.quantor(0, kind));
        }
        b.refused(ARGUMENT, "quantor(3, 'x')", States::mixed, x -> x.quantor(3, 'x'));
    }

    private static void holds(Boundary b) {
        b.sentence(47, "Returns whether the formula holds with its quantors.");
        for (int variables = 1; variables <= 6; variables++) {
            int many = variables;
            int widest = (int) Math.pow(3, many) - 1;
            int last = (widest + 1) / 3;
            b.allowed(true, "holds() of nothing, some", () -> Check.formula(many), x -> x.holds());
            b.allowed(true, "holds() of nothing, all", () -> heldAll(many), x -> x.holds());
            b.allowed(false, "holds() of the empty clause, some", () -> Check.formula(many, 0), x -> x.holds());
            b.allowed(false, "holds() of the empty clause, all", () -> heldAll(many, 0), x -> x.holds());
            b.allowed(true, "holds() of all, some", () -> Check.formula(many, widest / 2), x -> x.holds());
            b.allowed(false, "holds() of all, all", () -> heldAll(many, widest / 2), x -> x.holds());
            b.allowed(true, "holds() of the last one, some", () -> Check.formula(many, last), x -> x.holds());
            b.allowed(false, "holds() of the last one, all", () -> held(Check.formula(many, last), many - 1), x -> x.holds());
            b.allowed(true, "holds() of what only the last values keep", () -> lastAlone(many), x -> x.holds());
            for (int variable = 0; variable < many; variable++) {
                int asked = variable;
                b.allowed(false, "holds() of it, one for all", () -> held(lastAlone(many), asked), x -> x.holds());
            }
        }
        b.sentence(TERMS, "one behind the other, by rising numbers; the formula holds if so.");
        b.allowed(true, "for all x0 some x1 that is like it", () -> held(Check.formula(2, 7, 5), 0), x -> x.holds());
        b.allowed(false, "some x0 for all x1 that are like it", () -> held(Check.formula(2, 7, 5), 1), x -> x.holds());
        b.allowed(true, "for all x4 some x5 that is like it", () -> held(Check.formula(6, 81 + 486, 162 + 243), 4), x -> x.holds());
        b.allowed(false, "some x4 for all x5 that are like it", () -> held(Check.formula(6, 81 + 486, 162 + 243), 5), x -> x.holds());
        b.allowed(true, "for all x0 some x5 that is like it", () -> held(Check.formula(6, 1 + 486, 2 + 243), 0), x -> x.holds());
        b.allowed(false, "some x0 for all x5 that are like it", () -> held(Check.formula(6, 1 + 486, 2 + 243), 5), x -> x.holds());
        b.allowed(false, "holds()", States::mixed, x -> x.holds());
        b.allowed(false, "holds() when all is full", States::full, x -> x.holds());
    }

    /** Each variable in a clause of its own: all values are true. */
    private static Proofweigh lastAlone(int variables) {
        Proofweigh x = Check.formula(variables);
        for (int variable = 0; variable < variables; variable++) {
            x.add((int) Math.pow(3, variable));
        }
        return x;
    }

    private static void strategy(Boundary b) {
        b.sentence(48, "variable: a variable that is held by some value");
        for (int variables = 1; variables <= 6; variables++) {
            int many = variables;
            int widest = (int) Math.pow(3, many) - 1;
            for (int variable = 0; variable < many; variable++) {
                int asked = variable;
                int others = (1 << many) - 1 - (1 << variable);
                b.allowed(false, "strategy of nothing", () -> Check.formula(many), x -> x.strategy(asked, 0));
                b.allowed(true, "strategy of what the last values keep", () -> lastAlone(many), x -> x.strategy(asked, others));
                b.allowed(many - 1 == asked, "strategy of all, by no lower one", () -> Check.formula(many, widest / 2),
                        x -> x.strategy(asked, 0));
            }
        }
        b.allowed(true, "strategy(1, 0), all others for all", () -> held(Check.formula(3, 3), 0, 2), x -> x.strategy(1, 0));
        b.sentence(48, "false, if it then still holds.");
        b.allowed(false, "both hold", () -> Check.formula(1), x -> x.strategy(0, 0));
        b.allowed(false, "x0 is denied", () -> Check.formula(1, 2), x -> x.strategy(0, 1));
        b.allowed(true, "x0 is there", () -> Check.formula(1, 1), x -> x.strategy(0, 0));
        b.allowed(false, "x0 true or x1", () -> Check.formula(2, 4), x -> x.strategy(0, 3));
        b.allowed(true, "x0 true or x1, for all x1", () -> held(Check.formula(2, 4), 1), x -> x.strategy(0, 0));
        b.allowed(false, "x0 denied or x1, for all x1", () -> held(Check.formula(2, 5), 1), x -> x.strategy(0, 0));
    }

    private static void strategyValues(Boundary b) {
        b.sentence(48, "values: the values; those of this and of higher variables are of no meaning");
        for (int values = 0; values < 64; values++) {
            int asked = values;
            // x3 as x2, x5 as x4.
            Boundary.Made made = () -> held(Check.formula(6, 27 + 18, 54 + 9, 243 + 162, 486 + 81), 2, 4);
            b.allowed((asked >> 2 & 1) != 0, "strategy(3, " + asked + ")", made, x -> x.strategy(3, asked));
            b.allowed((asked >> 2 & 3) % 3 != 0 ? ELEMENT : (Object) ((asked >> 4 & 1) != 0), "strategy(5, " + asked + ")", made,
                    x -> x.strategy(5, asked));
            b.allowed(false, "strategy(0, " + asked + ")", made, x -> x.strategy(0, asked));
        }
        for (int variables = 1; variables <= 6; variables++) {
            int many = variables;
            int last = (1 << many) - 1;
            b.allowed(true, "strategy(0, 0)", () -> Check.formula(many, 1), x -> x.strategy(0, 0));
            b.allowed(true, "strategy(0, " + last + ")", () -> Check.formula(many, 1), x -> x.strategy(0, last));
            b.allowed(false, "strategy(0, " + last + ") denied", () -> Check.formula(many, 2), x -> x.strategy(0, last));
        }
    }

    private static void strategyRefused(Boundary b) {
        b.sentence(48, "IllegalArgumentException if there is no such variable, it is held by all values, or there are no such values");
        for (int variables = 1; variables <= 6; variables++) {
            int many = variables;
            int last = (1 << many) - 1;
            b.refusedBeyond(0, many - 1, ARGUMENT, "strategy(#, 0)", () -> Check.formula(many), (x, k) -> x.strategy(k, 0));
            b.refusedBeyond(0, last, ARGUMENT, "strategy(0, #)", () -> Check.formula(many), (x, k) -> x.strategy(0, k));
            b.refusedBeyond(0, last, ARGUMENT, "strategy(" + (many - 1) + ", #)", () -> Check.formula(many),
                    (x, k) -> x.strategy(many - 1, k));
            for (int variable = 0; variable < many; variable++) {
                int asked = variable;
                b.refused(ARGUMENT, "strategy(" + asked + ", 0) held by all", () -> held(Check.formula(many), asked),
                        x -> x.strategy(asked, 0));
                b.allowed(false, "strategy(" + asked + ", 0) held by some again", () -> held(Check.formula(many), asked),
                        x -> x.quantor(asked, 'e') != 'a' || x.strategy(asked, 0));
            }
        }
        b.refusedBeyond(0, 2, ARGUMENT, "strategy(#, 0)", States::mixed, (x, k) -> x.strategy(k, 0));
        b.refusedBeyond(0, 7, ARGUMENT, "strategy(1, #)", States::mixed, (x, k) -> x.strategy(1, k));
        b.refused(ARGUMENT, "strategy(32, 0), 0 modulo 32", States::empty, x -> x.strategy(32, 0));
    }

    private static void strategyNone(Boundary b) {
        b.sentence(48, "NoSuchElementException if it does not hold then, for these values of lower ones");
        b.refused(ELEMENT, "strategy(0, 0) of the empty clause", () -> Check.formula(6, 0), x -> x.strategy(0, 0));
        b.refused(ELEMENT, "strategy(5, 63) of the empty clause", () -> Check.formula(6, 0), x -> x.strategy(5, 63));
        b.refused(ELEMENT, "strategy(1, 0)", States::mixed, x -> x.strategy(1, 0));
        b.refused(ELEMENT, "strategy(0, 3) when all is full", States::full, x -> x.strategy(0, 3));
        b.refused(ELEMENT, "x1 where x0 is false, but has to be true", () -> Check.formula(2, 1), x -> x.strategy(1, 2));
        b.allowed(false, "x1 where x0 is true", () -> Check.formula(2, 1), x -> x.strategy(1, 1));
        b.refused(ELEMENT, "x5 where x4 is false", () -> lastAlone(6), x -> x.strategy(5, 15 + 32));
        b.allowed(true, "x5 where all lower ones are true", () -> lastAlone(6), x -> x.strategy(5, 31));
        b.refused(ELEMENT, "x0 of x1, for all x1", () -> held(Check.formula(2, 3), 1), x -> x.strategy(0, 1));
        b.refused(ELEMENT, "x0 as x1, for all x1", () -> held(Check.formula(2, 5, 7), 1), x -> x.strategy(0, 3));
        b.allowed(true, "it holds then, though not for all x0", () -> held(Check.formula(2, 1, 3), 0), x -> x.strategy(1, 1));
    }
}
