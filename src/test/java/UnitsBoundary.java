/** The boundaries of the promises 44 and 45: what follows by units, and lemmas. */
final class UnitsBoundary {
    private static final Class<?> ARGUMENT = Check.ARGUMENT;
    private static final Class<?> STATE = Check.STATE;
    private static final Class<?> UNSUPPORTED = Check.UNSUPPORTED;
    private static final int TERMS = Boundary.TERMS;

    private UnitsBoundary() {}

    static void check(Boundary b) {
        follows(b);
        units(b);
        rows(b);
        lemma(b);
        lemmaRefused(b);
        lemmasLost(b);
    }

    private static void follows(Boundary b) {
        b.sentence(44, "clause: the clause, as a number");
        for (int variables = 1; variables <= 6; variables++) {
            int many = variables;
            int last = (int) Math.pow(3, many) - 1;
            b.allowed(false, "follows(0) of " + many, () -> Check.formula(many), x -> x.follows(0));
            b.allowed(false, "follows(" + last + ") of " + many, () -> Check.formula(many), x -> x.follows(last));
            b.allowed(true, "follows(" + last + ") of itself", () -> Check.formula(many, last), x -> x.follows(last));
            b.allowed(true, "follows(0) of the empty clause", () -> Check.formula(many, 0), x -> x.follows(0));
            b.allowed(true, "follows(" + last + ") of the empty clause", () -> Check.formula(many, 0), x -> x.follows(last));
        }
        b.sentence(44, "IllegalArgumentException if there is no such clause");
        for (int variables = 1; variables <= 6; variables++) {
            int many = variables;
            int last = (int) Math.pow(3, many) - 1;
            b.refusedBeyond(0, last, ARGUMENT, "follows(#) of " + many, () -> Check.formula(many, 0), (x, k) -> x.follows(k));
        }
        b.refusedBeyond(0, 26, ARGUMENT, "follows(#)", States::mixed, (x, k) -> x.follows(k));
        b.refusedBeyond(0, 8, ARGUMENT, "follows(#)", States::full, (x, k) -> x.follows(k));
        b.sentence(44, "Returns whether it does.");
        b.allowed(true, "follows(0) of x0 and x0 denied", States::contrary, x -> x.follows(0));
        b.allowed(false, "follows(0) of a square", States::square, x -> x.follows(0));
        b.allowed(true, "follows(1) of a square", States::square, x -> x.follows(1));
        b.allowed(true, "follows(6) of a square", States::square, x -> x.follows(6));
        b.allowed(true, "follows(0) of six", TreesBoundary::six, x -> x.follows(0));
        b.allowed(true, "follows(0) of a stair", () -> TreesBoundary.stair(6), x -> x.follows(0));
        b.allowed(false, "follows(0) of all of three", () -> TreesBoundary.all(3), x -> x.follows(0));
        b.allowed(false, "follows(1) of all of three", () -> TreesBoundary.all(3), x -> x.follows(1));
        b.allowed(true, "follows(4) of all of three", () -> TreesBoundary.all(3), x -> x.follows(4));
        b.allowed(true, "follows(1), x0 32 times", () -> States.fullOfClauses(6), x -> x.follows(1));
        b.allowed(false, "follows(3), x0 32 times", () -> States.fullOfClauses(6), x -> x.follows(3));
    }

    private static void units(Boundary b) {
        b.sentence(TERMS, "a clause of the formula or a lemma that is not true yet, and has just one variable without a value,"
                + " tells it, again and again.");
        b.allowed(true, "x0 or x1 or x2, one open", () -> Check.formula(3, 13, 18), x -> x.follows(4));
        b.allowed(false, "x0 or x1 or x2, two open", () -> Check.formula(3, 13, 18), x -> x.follows(1));
        b.allowed(false, "x0 denied or x1, where x0 is false already", () -> Check.formula(2, 5, 6), x -> x.follows(1));
        b.allowed(true, "x0 denied or x1, where x0 is true", () -> Check.formula(2, 5, 6), x -> x.follows(2));
        b.allowed(true, "x0 or x1 denied, where x1 is true", () -> Check.formula(2, 7, 3), x -> x.follows(1));
        b.sentence(TERMS, "A clause follows by units if, with all in it told to be false, some clause or lemma becomes false.");
        b.allowed(true, "x0 follows from x0", () -> Check.formula(2, 1), x -> x.follows(1));
        b.allowed(true, "x0 or x1 follows from x0", () -> Check.formula(2, 1), x -> x.follows(4));
        b.allowed(true, "x0 or x1 denied follows from x0", () -> Check.formula(2, 1), x -> x.follows(7));
        b.allowed(false, "x0 denied follows from x0", () -> Check.formula(2, 1), x -> x.follows(2));
        b.allowed(false, "x1 follows from x0", () -> Check.formula(2, 1), x -> x.follows(3));
        b.allowed(false, "the empty clause follows from x0", () -> Check.formula(2, 1), x -> x.follows(0));
        b.allowed(false, "x0 follows from x0 or x1", () -> Check.formula(2, 4), x -> x.follows(1));
        for (int variable = 0; variable < 6; variable++) {
            int power = (int) Math.pow(3, variable);
            b.allowed(true, "a variable follows from itself", () -> Check.formula(6, power), x -> x.follows(power));
            b.allowed(true, "all six follow from one", () -> Check.formula(6, power), x -> x.follows(364));
            b.allowed(false, "all six denied from one that is not", () -> Check.formula(6, power), x -> x.follows(728));
            b.allowed(true, "one denied from all five others and it", () -> Check.formula(6, 364 + power), x -> x.follows(364 + power));
            b.allowed(false, "one from all six", () -> Check.formula(6, 364), x -> x.follows(364 - power));
        }
    }

    /** x5, and from each variable the one below it, down to x0, which is barred; each tells only after the one behind it. */
    private static Proofweigh row() {
        return Check.formula(6, 2, 7, 21, 63, 189, 567);
    }

    private static void rows(Boundary b) {
        b.sentence(TERMS, "Units: with some values told, a clause of the formula or a lemma that is not true yet");
        b.allowed(true, "x5 denied by a row of six, from the start", UnitsBoundary::row, x -> x.follows(486));
        b.allowed(false, "x5 by this row", UnitsBoundary::row, x -> x.follows(243));
        b.allowed(true, "six in a row against the order", () -> Check.formula(6, 7, 21, 63, 189, 567, 243), x -> x.follows(1));
        b.allowed(true, "the end of a row from its last clause", () -> Check.formula(6, 728, 7, 21, 63, 189, 567, 243),
                x -> x.follows(0));
        b.allowed(false, "a row without its middle", () -> Check.formula(6, 7, 21, 189, 567, 243), x -> x.follows(1));
        b.allowed(true, "a lemma that tells", UnitsBoundary::byLemma, x -> x.follows(0));
        b.allowed(false, "without this lemma", States::square, x -> x.follows(0));
    }

    private static Proofweigh byLemma() {
        Proofweigh x = States.square();
        x.lemma(1);
        return x;
    }

    private static void lemma(Boundary b) {
        b.sentence(45, "clause: the clause, as a number");
        for (int variables = 1; variables <= 6; variables++) {
            int many = variables;
            int last = (int) Math.pow(3, many) - 1;
            b.allowed(1, "lemma(0) of " + many, () -> Check.formula(many, 0), x -> x.lemma(0));
            b.allowed(1, "lemma(" + last + ") of " + many, () -> Check.formula(many, last), x -> x.lemma(last));
        }
        b.allowed(true, "lemma(0), and then all follows", () -> {
            Proofweigh x = byLemma();
            x.lemma(0);
            return x;
        }, x -> x.follows(8) && x.follows(0));
        b.sentence(45, "Returns how many there are.");
        Proofweigh x = States.square();
        for (int lemma = 1; lemma <= 20; lemma++) {
            int many = lemma;
            b.due(many, "lemma(4) again", () -> x.lemma(4));
        }
        b.due(STATE, "lemma(4) when there are 20", () -> x.lemma(4));
        b.sentence(TERMS, "At most 20 clauses are lemmas.");
        b.allowed(20, "lemma(1) when there are 19", () -> States.lemmasLeft(1), y -> y.lemma(1));
        b.allowed(true, "follows(0) by the 20th", () -> States.lemmasLeft(1), y -> y.lemma(1) == 20 && y.follows(0));
        b.allowed(false, "follows(0) by those before", () -> States.lemmasLeft(1), y -> y.follows(0));
        b.allowed(true, "isTrue() with 20", () -> States.lemmasLeft(1), y -> y.lemma(1) == 20 && y.isTrue());
    }

    private static void lemmaRefused(Boundary b) {
        b.sentence(45, "IllegalArgumentException if there is no such clause");
        for (int variables = 1; variables <= 6; variables++) {
            int many = variables;
            int last = (int) Math.pow(3, many) - 1;
            b.refusedBeyond(0, last, ARGUMENT, "lemma(#) of " + many, () -> Check.formula(many, 0), (x, k) -> x.lemma(k));
        }
        b.refusedBeyond(0, 26, ARGUMENT, "lemma(#)", States::mixed, (x, k) -> x.lemma(k));
        b.sentence(45, "UnsupportedOperationException if it does not follow by units");
        b.refused(UNSUPPORTED, "lemma(0) of nothing", States::empty, x -> x.lemma(0));
        b.refused(UNSUPPORTED, "lemma(728) of nothing", States::empty, x -> x.lemma(728));
        b.refused(UNSUPPORTED, "lemma(0) of a square, which follows, but not by units", States::square, x -> x.lemma(0));
        b.refused(UNSUPPORTED, "lemma(1) of all of three, which follows, but not by units", () -> TreesBoundary.all(3), x -> x.lemma(1));
        b.refused(UNSUPPORTED, "lemma(9)", States::wide, x -> x.lemma(9));
        b.refused(UNSUPPORTED, "lemma(3), x0 32 times", () -> States.fullOfClauses(6), x -> x.lemma(3));
        b.sentence(45, "IllegalStateException if there are 20");
        b.allowed(20, "lemma(4) when there are 19", () -> States.lemmasLeft(1), x -> x.lemma(4));
        b.refused(STATE, "lemma(4) when there are 20", States::fullOfLemmas, x -> x.lemma(4));
        b.refused(STATE, "lemma(1) when there are 20", States::fullOfLemmas, x -> x.lemma(1));
        b.refused(STATE, "lemma(4) when all is full", States::full, x -> x.lemma(4));
    }

    private static void lemmasLost(Boundary b) {
        b.sentence(4, "Takes all clauses away; proof, planes and lemmas, too.");
        b.allowed(false, "follows(4) after clear()", States::fullOfLemmas, x -> x.clear() != 4 || x.follows(4));
        b.allowed(1, "lemma(4) after clear() and add(4)", States::fullOfLemmas, x -> x.clear() - 4 + x.add(4) + x.lemma(4));
        b.sentence(2, "formula, proof, planes, lemmas and quantors begin anew");
        b.allowed(1, "lemma(4) after variables(2) and add(4)", States::fullOfLemmas,
                x -> x.variables(2) - 2 + x.add(4) + x.lemma(4));
        b.allowed(1, "lemma(1) after stair(1)", States::fullOfLemmas, x -> x.stair(1) - 2 + x.lemma(1));
    }
}
