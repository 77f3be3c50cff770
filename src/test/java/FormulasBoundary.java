/** The boundaries of the promises 1 to 14: a new object, and formulas. */
final class FormulasBoundary {
    private static final Class<?> ARGUMENT = Check.ARGUMENT;
    private static final Class<?> STATE = Check.STATE;
    private static final Class<?> INDEX = Check.INDEX;
    private static final Class<?> UNSUPPORTED = Check.UNSUPPORTED;
    private static final Class<?> ELEMENT = Check.ELEMENT;

    private FormulasBoundary() {}

    static void check(Boundary b) {
        newObject(b);
        variables(b);
        add(b);
        clear(b);
        clauses(b);
        holes(b);
        ring(b);
        stair(b);
        chance(b);
        chanceRefused(b);
        lift(b);
        liftRefused(b);
        models(b);
        broken(b);
    }

    /** Expects that a call on objects that hold much leaves what it makes on a new one. */
    private static void anew(Boundary b, String call, Boundary.On on) {
        Proofweigh due = new Proofweigh();
        on.answer(due);
        String sight = Sight.of(due);
        for (Boundary.Made made : new Boundary.Made[] {States::mixed, States::wide, States::full}) {
            Proofweigh x = made.make();
            on.answer(x);
            b.alike(call, sight, x);
        }
    }

    private static void newObject(Boundary b) {
        b.sentence(1, "Creates a weighhouse with 6 variables, an empty formula and an empty proof.");
        b.allowed(6, "variables(6)", Proofweigh::new, x -> x.variables(6));
        b.allowed(0, "clauses()", Proofweigh::new, x -> x.clauses());
        b.allowed(INDEX, "clause(0)", Proofweigh::new, x -> x.clause(0));
        b.allowed(64, "models()", Proofweigh::new, x -> x.models());
        b.allowed(INDEX, "lineAt(0)", Proofweigh::new, x -> x.lineAt(0));
        b.allowed(ELEMENT, "proof('e')", Proofweigh::new, x -> x.proof('e'));
        b.allowed(0, "planes()", Proofweigh::new, x -> x.planes());
        b.allowed(false, "follows(0)", Proofweigh::new, x -> x.follows(0));
        b.allowed(0, "add(728)", Proofweigh::new, x -> x.add(728));
        b.allowed(ARGUMENT, "add(729)", Proofweigh::new, x -> x.add(729));
        for (int variable = 0; variable < 6; variable++) {
            int asked = variable;
            b.allowed('e', "quantor(" + asked + ", 'a')", Proofweigh::new, x -> x.quantor(asked, 'a'));
        }
    }

    private static void variables(Boundary b) {
        b.sentence(2, "many: how many, 1 to 6");
        b.allowedFrom(1, "variables(#)", States::empty, (x, k) -> x.variables(k), 6, 6, 6, 6, 6, 6);
        for (int many = 1; many <= 6; many++) {
            int set = many;
            b.allowed(1 << many, "models() of " + many, () -> Check.formula(set), x -> x.models());
        }
        b.sentence(2, "IllegalArgumentException if a number is out of range");
        b.refusedBeyond(1, 6, ARGUMENT, "variables(#)", States::empty, (x, k) -> x.variables(k));
        b.refusedBeyond(1, 6, ARGUMENT, "variables(#)", States::mixed, (x, k) -> x.variables(k));
        b.refusedBeyond(1, 6, ARGUMENT, "variables(#)", States::full, (x, k) -> x.variables(k));
        b.sentence(2, "formula, proof, planes, lemmas and quantors begin anew");
        anew(b, "variables(1)", x -> x.variables(1));
        anew(b, "variables(2)", x -> x.variables(2));
        anew(b, "variables(6)", x -> x.variables(6));
        b.sentence(2, "Returns how many there were.");
        b.allowed(1, "variables(6) of 1", States::one, x -> x.variables(6));
        b.allowed(2, "variables(2) of 2", States::full, x -> x.variables(2));
        b.allowed(6, "variables(1) of 6", States::wide, x -> x.variables(1));
        b.allowed(4, "variables(5) after holes(2, 2)", () -> holed(2, 2), x -> x.variables(5));
        b.allowed(3, "variables(5) after variables(7) that was refused", States::mixed, x -> {
            Check.answerOf(() -> x.variables(7));
            return x.variables(5);
        });
    }

    private static Proofweigh holed(int pigeons, int holes) {
        Proofweigh x = new Proofweigh();
        x.holes(pigeons, holes);
        return x;
    }

    private static void add(Boundary b) {
        b.sentence(3, "clause: the clause, as a number");
        int beyond = 1;
        for (int variables = 1; variables <= 6; variables++) {
            beyond *= 3;
            int many = variables;
            int last = beyond - 1;
            b.allowed(0, "add(0) of " + many, () -> Check.formula(many), x -> x.add(0));
            b.allowed(0, "add(" + last + ") of " + many, () -> Check.formula(many), x -> x.add(last));
            b.allowed(last, "clause(0) that was added", () -> Check.formula(many, last), x -> x.clause(0));
        }
        b.sentence(3, "IllegalArgumentException if there is no such clause");
        beyond = 1;
        for (int variables = 1; variables <= 6; variables++) {
            beyond *= 3;
            int many = variables;
            b.refusedBeyond(0, beyond - 1, ARGUMENT, "add(#) of " + many, () -> Check.formula(many), (x, k) -> x.add(k));
        }
        b.refusedBeyond(0, 26, ARGUMENT, "add(#)", States::mixed, (x, k) -> x.add(k));
        b.sentence(3, "IllegalStateException if there are 32");
        b.allowed(31, "add(0) when there are 31", () -> clausesLeft(1), x -> x.add(0));
        b.allowed(32, "clauses() then", () -> clausesLeft(0), x -> x.clauses());
        b.refused(STATE, "add(0) when there are 32", () -> clausesLeft(0), x -> x.add(0));
        b.refused(STATE, "add(1) when there are 32", () -> States.fullOfClauses(6), x -> x.add(1));
        b.refused(STATE, "add(8) when all is full", States::full, x -> x.add(8));
        b.refused(STATE, "add(2) after chance(6, 32, 1)", () -> drawn(6, 32, 1), x -> x.add(2));
        b.sentence(3, "Returns its number.");
        Proofweigh x = Check.formula(2);
        for (int clause = 0; clause < 32; clause++) {
            int number = clause;
            b.due(number, "add(" + number % 9 + ")", () -> x.add(number % 9));
            b.due(number % 9, "clause(" + number + ")", () -> x.clause(number));
        }
    }

    /** Some clauses of x0 or x1, until there is but some room. */
    private static Proofweigh clausesLeft(int room) {
        Proofweigh x = Check.formula(2);
        for (int clause = 0; clause < 32 - room; clause++) {
            x.add(4);
        }
        return x;
    }

    private static Proofweigh drawn(int variables, int clauses, int seed) {
        Proofweigh x = new Proofweigh();
        x.chance(variables, clauses, seed);
        return x;
    }

    private static void clear(Boundary b) {
        b.sentence(4, "Takes all clauses away; proof, planes and lemmas, too.");
        Proofweigh due = Check.formula(3);
        due.quantor(0, 'a');
        due.quantor(2, 'a');
        Proofweigh x = States.mixed();
        x.clear();
        b.alike("clear() keeps the variables and the quantors", due, x);
        Proofweigh full = States.full();
        full.clear();
        Proofweigh held = Check.formula(2);
        held.quantor(1, 'a');
        b.alike("clear() when all is full", held, full);
        Proofweigh none = States.one();
        none.clear();
        b.alike("clear() of nothing", States.one(), none);
        b.sentence(4, "Returns how many clauses there were.");
        b.allowed(0, "clear() of nothing", States::empty, y -> y.clear());
        b.allowed(0, "clear() of nothing", States::one, y -> y.clear());
        b.allowed(1, "clear() of one", () -> Check.formula(1, 0), y -> y.clear());
        b.allowed(5, "clear()", States::mixed, y -> y.clear());
        b.allowed(32, "clear() when all is full", States::full, y -> y.clear());
        b.allowed(0, "clear() again", States::full, y -> y.clear() - 32 + y.clear());
        b.allowed(0, "add(8) after clear()", States::full, y -> y.clear() - 32 + y.add(8));
    }

    private static void clauses(Boundary b) {
        b.sentence(5, "clause: the number of the clause in the formula");
        b.allowed(4, "clause(0)", States::mixed, x -> x.clause(0));
        b.allowed(10, "clause(4)", States::mixed, x -> x.clause(4));
        b.allowed(4, "clause(0)", States::full, x -> x.clause(0));
        b.allowed(4, "clause(31)", States::full, x -> x.clause(31));
        b.allowed(0, "clause(0), the empty one", () -> Check.formula(1, 0), x -> x.clause(0));
        b.allowed(728, "clause(0), the last one that there is", States::wide, x -> x.clause(0));
        b.sentence(5, "IndexOutOfBoundsException if there is no such clause");
        b.refused(INDEX, "clause(0) of nothing", States::empty, x -> x.clause(0));
        b.refusedBeyond(0, 4, INDEX, "clause(#)", States::mixed, (x, k) -> x.clause(k));
        b.refusedBeyond(0, 31, INDEX, "clause(#)", States::full, (x, k) -> x.clause(k));
        b.allowed(INDEX, "clause(0) after clear()", States::full, x -> x.clear() - 32 + x.clause(0));
        b.allowed(INDEX, "clause(2) after stair(1)", States::full, x -> x.stair(1) - 2 + x.clause(2));
        b.sentence(6, "Returns how many clauses there are.");
        b.allowed(0, "clauses() of nothing", States::empty, x -> x.clauses());
        b.allowed(1, "clauses() of one", () -> Check.formula(1, 0), x -> x.clauses());
        b.allowed(32, "clauses() of 32", States::full, x -> x.clauses());
        b.allowed(32, "clauses() after what was refused", States::full, x -> {
            Check.answerOf(() -> x.add(4));
            return x.clauses();
        });
    }

    /** Expects the clauses of a formula, and the number of its variables. */
    private static void made(Boundary b, String call, int variables, Boundary.Made made, int... due) {
        b.allowed(due.length, call + ": clauses", made, x -> x.clauses());
        for (int clause = 0; clause < due.length; clause++) {
            int number = clause;
            b.allowed(due[clause], call + ": clause(" + number + ")", made, x -> x.clause(number));
        }
        b.allowed(variables, call + ": variables", made, x -> x.variables(6));
    }

    private static void holes(Boundary b) {
        b.sentence(7, "pigeons: how many, 1 to 6");
        b.allowedFrom(1, "holes(#, 1)", States::empty, (x, k) -> x.holes(k, 1), 1, 3, 6, 10, 15, 21);
        made(b, "holes(1, 1)", 1, () -> holed(1, 1), 1);
        made(b, "holes(6, 1)", 6, () -> holed(6, 1), 1, 3, 9, 27, 81, 243,
                8, 20, 56, 164, 488, 24, 60, 168, 492, 72, 180, 504, 216, 540, 648);
        b.sentence(7, "holes: how many, 1 to 6");
        b.allowedFrom(1, "holes(1, #)", States::empty, (x, k) -> x.holes(1, k), 1, 1, 1, 1, 1, 1);
        made(b, "holes(1, 6)", 6, () -> holed(1, 6), 364);
        b.sentence(7, "IllegalArgumentException if a number is out of range, or there would be more than 6 variables");
        b.refusedBeyond(1, 6, ARGUMENT, "holes(#, 1)", States::mixed, (x, k) -> x.holes(k, 1));
        b.refusedBeyond(1, 6, ARGUMENT, "holes(1, #)", States::mixed, (x, k) -> x.holes(1, k));
        int[][] refused = {
            {2, 4}, {4, 2}, {3, 3}, {2, 5}, {5, 2}, {2, 6}, {6, 2}, {6, 6}, {-1, -1}, {-2, -3}, {-1, -6}, {0, 0}, {0, 7},
            {7, 0}, {65536, 65536}, {65536, 65537}, {Boundary.MIN, Boundary.MIN}, {Boundary.MAX, Boundary.MAX},
            {Boundary.MIN, -1}, {-1, Boundary.MAX}
        };
        for (int[] pair : refused) {
            String call = "holes(" + pair[0] + ", " + pair[1] + ")";
            b.refused(ARGUMENT, call, States::mixed, x -> x.holes(pair[0], pair[1]));
        }
        b.refused(ARGUMENT, "holes(3, 3) when all is full", States::full, x -> x.holes(3, 3));
        b.sentence(7, "with as many variables as it needs; all else begins anew");
        b.allowed(5, "holes(2, 3) of 6 variables", States::empty, x -> x.holes(2, 3));
        b.allowed(9, "holes(3, 2) of 6 variables", States::one, x -> x.holes(3, 2));
        made(b, "holes(2, 3)", 6, () -> holed(2, 3), 13, 351, 56, 168, 504);
        made(b, "holes(3, 2)", 6, () -> holed(3, 2), 4, 36, 324, 20, 164, 180, 60, 492, 540);
        made(b, "holes(5, 1)", 5, () -> holed(5, 1), 1, 3, 9, 27, 81, 8, 20, 56, 164, 24, 60, 168, 72, 180, 216);
        anew(b, "holes(1, 1)", x -> x.holes(1, 1));
        anew(b, "holes(2, 1)", x -> x.holes(2, 1));
        anew(b, "holes(3, 2)", x -> x.holes(3, 2));
    }

    private static Proofweigh ringed(int vertices) {
        Proofweigh x = new Proofweigh();
        x.ring(vertices);
        return x;
    }

    private static void ring(Boundary b) {
        b.sentence(8, "vertices: how many, 3 to 6");
        b.allowedFrom(3, "ring(#)", States::empty, (x, k) -> x.ring(k), 6, 8, 10, 12);
        made(b, "ring(3)", 3, () -> ringed(3), 10, 20, 5, 7, 15, 21);
        made(b, "ring(6)", 6, () -> ringed(6), 244, 488, 5, 7, 15, 21, 45, 63, 135, 189, 405, 567);
        b.sentence(8, "IllegalArgumentException if a number is out of range");
        b.refusedBeyond(3, 6, ARGUMENT, "ring(#)", States::mixed, (x, k) -> x.ring(k));
        b.refusedBeyond(3, 6, ARGUMENT, "ring(#)", States::full, (x, k) -> x.ring(k));
        b.refused(ARGUMENT, "ring(0)", States::mixed, x -> x.ring(0));
        b.refused(ARGUMENT, "ring(-3)", States::mixed, x -> x.ring(-3));
        b.sentence(8, "all else begins anew");
        anew(b, "ring(3)", x -> x.ring(3));
        anew(b, "ring(6)", x -> x.ring(6));
    }

    private static Proofweigh climbed(int steps) {
        Proofweigh x = new Proofweigh();
        x.stair(steps);
        return x;
    }

    private static void stair(Boundary b) {
        b.sentence(9, "steps: how many, 1 to 6");
        b.allowedFrom(1, "stair(#)", States::empty, (x, k) -> x.stair(k), 2, 3, 4, 5, 6, 7);
        made(b, "stair(1)", 1, () -> climbed(1), 1, 2);
        made(b, "stair(2)", 2, () -> climbed(2), 1, 5, 6);
        made(b, "stair(6)", 6, () -> climbed(6), 1, 5, 15, 45, 135, 405, 486);
        b.sentence(9, "IllegalArgumentException if a number is out of range");
        b.refusedBeyond(1, 6, ARGUMENT, "stair(#)", States::mixed, (x, k) -> x.stair(k));
        b.refusedBeyond(1, 6, ARGUMENT, "stair(#)", States::full, (x, k) -> x.stair(k));
        b.sentence(9, "all else begins anew");
        anew(b, "stair(1)", x -> x.stair(1));
        anew(b, "stair(6)", x -> x.stair(6));
    }

    /** The clauses of a chance formula, drawn with 64 bits and cut down to 32 by hand. */
    private static int[] drawnBy(int variables, int clauses, int seed) {
        int[] drawn = new int[clauses];
        long z = seed & 0xFFFFFFFFL;
        for (int clause = 0; clause < clauses; clause++) {
            int power = 1;
            for (int variable = 0; variable < variables; variable++) {
                z = (1103515245L * z + 12345L) % 4294967296L;
                drawn[clause] += (int) (z / 65536L % 3L) * power;
                power *= 3;
            }
        }
        return drawn;
    }

    private static void chance(Boundary b) {
        b.sentence(10, "variables: how many, 1 to 6");
        b.allowedFrom(1, "chance(#, 1, 7)", States::empty, (x, k) -> x.chance(k, 1, 7),
                drawnBy(1, 1, 7)[0], drawnBy(2, 1, 7)[0], drawnBy(3, 1, 7)[0],
                drawnBy(4, 1, 7)[0], drawnBy(5, 1, 7)[0], drawnBy(6, 1, 7)[0]);
        made(b, "chance(1, 3, -1)", 1, () -> drawn(1, 3, -1), drawnBy(1, 3, -1));
        made(b, "chance(6, 3, -1)", 6, () -> drawn(6, 3, -1), drawnBy(6, 3, -1));
        b.sentence(10, "clauses: how many, 1 to 32");
        for (int clauses = 1; clauses <= 32; clauses++) {
            int many = clauses;
            b.allowed(drawnBy(4, many, 5)[many - 1], "chance(4, " + many + ", 5)", States::full, x -> x.chance(4, many, 5));
            b.allowed(many, "clauses() of chance(4, " + many + ", 5)", () -> drawn(4, many, 5), x -> x.clauses());
        }
        b.sentence(10, "seed: the seed");
        for (int seed : new int[] {0, 1, -1, 2, -2, 32767, 65535, 65536, -65536, Boundary.MIN, Boundary.MIN + 1, Boundary.MAX,
            Boundary.MAX - 1, 0x55555555, 0xAAAAAAAA}) {
            made(b, "chance(6, 32, " + seed + ")", 6, () -> drawn(6, 32, seed), drawnBy(6, 32, seed));
        }
        b.sentence(10, "Returns the last clause.");
        b.allowed(drawnBy(6, 32, Boundary.MIN)[31], "chance(6, 32, MIN)", States::one, x -> x.chance(6, 32, Boundary.MIN));
        b.allowed(drawnBy(1, 1, 0)[0], "chance(1, 1, 0)", States::full, x -> x.chance(1, 1, 0));
        b.sentence(10, "all else begins anew");
        anew(b, "chance(1, 1, 3)", x -> x.chance(1, 1, 3));
        anew(b, "chance(6, 32, 3)", x -> x.chance(6, 32, 3));
    }

    private static void chanceRefused(Boundary b) {
        b.sentence(10, "IllegalArgumentException if a number is out of range");
        b.refusedBeyond(1, 6, ARGUMENT, "chance(#, 1, 0)", States::mixed, (x, k) -> x.chance(k, 1, 0));
        b.refusedBeyond(1, 6, ARGUMENT, "chance(#, 32, -1)", States::full, (x, k) -> x.chance(k, 32, -1));
        b.refusedBeyond(1, 32, ARGUMENT, "chance(1, #, 0)", States::mixed, (x, k) -> x.chance(1, k, 0));
        b.refusedBeyond(1, 32, ARGUMENT, "chance(6, #, -1)", States::full, (x, k) -> x.chance(6, k, -1));
        b.refused(ARGUMENT, "chance(0, 0, 0)", States::mixed, x -> x.chance(0, 0, 0));
    }

    private static Proofweigh lifted(int variables, int... clauses) {
        Proofweigh x = Check.formula(variables, clauses);
        x.lift();
        return x;
    }

    private static void lift(Boundary b) {
        b.sentence(11, "Returns how many clauses it has.");
        b.allowed(0, "lift() of nothing", States::one, x -> x.lift());
        b.allowed(1, "lift() of the empty clause", () -> Check.formula(3, 0), x -> x.lift());
        b.allowed(2, "lift() of a clause of one", () -> Check.formula(3, 9), x -> x.lift());
        b.allowed(8, "lift() of a clause of three", () -> Check.formula(3, 26), x -> x.lift());
        b.sentence(11, "Lifts the formula");
        made(b, "lift() of nothing", 2, () -> lifted(1));
        made(b, "lift() of nothing", 6, () -> lifted(3));
        made(b, "lift() of the empty clause", 6, () -> lifted(3, 0), 0);
        made(b, "lift() of x0", 2, () -> lifted(1, 1), 4, 8);
        made(b, "lift() of x0 denied", 2, () -> lifted(1, 2), 7, 5);
        made(b, "lift() of x2 in three", 6, () -> lifted(3, 9), 9 + 243, 18 + 486);
        made(b, "lift() of x0 or x1 denied", 4, () -> lifted(2, 7), 67, 77, 43, 53);
        b.sentence(11, "all else begins anew");
        Proofweigh x = States.mixed();
        x.clear();
        x.quantor(0, 'a');
        x.add(1);
        x.add(2);
        Check.putAll(x);
        x.plane(0);
        x.lemma(1);
        x.side(0, 1);
        x.side(1, 1);
        b.due(4, "lift()", () -> x.lift());
        b.alike("lift() of what is held", Check.formula(6, 1 + 27, 2 + 54, 1 + 54, 2 + 27), x);
    }

    private static void liftRefused(Boundary b) {
        b.sentence(11, "UnsupportedOperationException if there would be more than 6 variables, or more than 32 clauses");
        for (int variables = 1; variables <= 3; variables++) {
            int many = variables;
            b.allowed(0, "lift() of " + many + " variables", () -> Check.formula(many), x -> x.lift());
        }
        for (int variables = 4; variables <= 6; variables++) {
            int many = variables;
            b.refused(UNSUPPORTED, "lift() of " + many + " variables", () -> Check.formula(many), x -> x.lift());
            b.refused(UNSUPPORTED, "lift() of x0 in " + many, () -> Check.formula(many, 1), x -> x.lift());
        }
        b.refused(UNSUPPORTED, "lift() of 6 variables", States::wide, x -> x.lift());
        b.allowed(32, "lift() to 4 times 8 clauses", () -> Check.formula(3, 13, 26, 14, 22), x -> x.lift());
        b.refused(UNSUPPORTED, "lift() to 4 times 8 and 1", () -> Check.formula(3, 13, 26, 14, 22, 0), x -> x.lift());
        b.refused(UNSUPPORTED, "lift() to 4 times 8 and 2", () -> Check.formula(3, 13, 26, 14, 22, 2), x -> x.lift());
        b.allowed(32, "lift() of 32 empty clauses", () -> alike(3, 0, 32), x -> x.lift());
        b.allowed(32, "lift() to 16 times 2", () -> alike(2, 6, 16), x -> x.lift());
        b.refused(UNSUPPORTED, "lift() to 17 times 2", () -> alike(2, 6, 17), x -> x.lift());
        b.allowed(32, "lift() to 8 times 4", () -> alike(2, 8, 8), x -> x.lift());
        b.refused(UNSUPPORTED, "lift() to 9 times 4", () -> alike(2, 8, 9), x -> x.lift());
        b.refused(UNSUPPORTED, "lift() to 32 times 8", () -> alike(3, 26, 32), x -> x.lift());
        b.refused(UNSUPPORTED, "lift() when all is full", States::full, x -> x.lift());
        b.allowed(UNSUPPORTED, "lift() twice of two variables", () -> lifted(2, 1), x -> x.lift());
        b.allowed(4, "lift() twice of one variable", () -> lifted(1), x -> x.lift() + x.variables(6));
    }

    private static Proofweigh alike(int variables, int clause, int many) {
        Proofweigh x = Check.formula(variables);
        for (int number = 0; number < many; number++) {
            x.add(clause);
        }
        return x;
    }

    private static void models(Boundary b) {
        b.sentence(12, "Returns the first values that keep all clauses.");
        b.allowed(0, "model() of nothing", States::empty, x -> x.model());
        b.allowed(0, "model() of all denied", () -> Check.formula(6, 728), x -> x.model());
        b.allowed(1, "model() of x0 or more", () -> Check.formula(6, 364), x -> x.model());
        b.allowed(32, "model() of x5", () -> Check.formula(6, 243), x -> x.model());
        b.allowed(63, "model() of all", () -> Check.formula(6, 1, 3, 9, 27, 81, 243), x -> x.model());
        b.allowed(1, "model() of x0 in one", () -> Check.formula(1, 1), x -> x.model());
        b.allowed(3, "model() of x0, x1 in two", () -> Check.formula(2, 1, 3), x -> x.model());
        b.sentence(12, "NoSuchElementException if there are none");
        b.refused(ELEMENT, "model() of the empty clause", () -> Check.formula(6, 0), x -> x.model());
        b.refused(ELEMENT, "model() of x0 and x0 denied", States::contrary, x -> x.model());
        b.refused(ELEMENT, "model()", States::mixed, x -> x.model());
        b.refused(ELEMENT, "model() when all is full", States::full, x -> x.model());
        b.refused(ELEMENT, "model() of six and none", () -> Check.formula(6, 1, 3, 9, 27, 81, 243, 728), x -> x.model());
        b.sentence(13, "Returns how many values keep all clauses.");
        for (int variables = 1; variables <= 6; variables++) {
            int many = variables;
            int all = 1 << many;
            int widest = (int) Math.pow(3, many) - 1;
            b.allowed(all, "models() of nothing", () -> Check.formula(many), x -> x.models());
            b.allowed(0, "models() of the empty clause", () -> Check.formula(many, 0), x -> x.models());
            b.allowed(all - 1, "models() of all denied", () -> Check.formula(many, widest), x -> x.models());
            b.allowed(all - 1, "models() of all", () -> Check.formula(many, widest / 2), x -> x.models());
            b.allowed(all / 2, "models() of the last one", () -> Check.formula(many, (widest + 1) / 3), x -> x.models());
        }
        b.allowed(1, "models() of six", () -> Check.formula(6, 1, 3, 9, 27, 81, 243), x -> x.models());
    }

    private static void broken(Boundary b) {
        b.sentence(14, "values: the values");
        for (int variables = 1; variables <= 6; variables++) {
            int many = variables;
            int last = (1 << many) - 1;
            int widest = (int) Math.pow(3, many) - 1;
            b.allowed(0, "broken(" + last + ")", () -> Check.formula(many, widest, widest / 2), x -> x.broken(last));
            b.allowed(1, "broken(0)", () -> Check.formula(many, widest, widest / 2), x -> x.broken(0));
        }
        b.sentence(14, "Returns the lowest clause that values make false.");
        b.allowed(0, "broken(0) of alike clauses", () -> alike(2, 4, 32), x -> x.broken(0));
        b.allowed(31, "broken(0) of the last one of 32", () -> {
            Proofweigh x = alike(2, 8, 31);
            x.add(4);
            return x;
        }, x -> x.broken(0));
        b.sentence(14, "IllegalArgumentException if there are no such values");
        for (int variables = 1; variables <= 6; variables++) {
            int many = variables;
            int last = (1 << many) - 1;
            b.refusedBeyond(0, last, ARGUMENT, "broken(#)", () -> Check.formula(many, 0), (x, k) -> x.broken(k));
        }
        b.refusedBeyond(0, 7, ARGUMENT, "broken(#)", States::mixed, (x, k) -> x.broken(k));
        b.sentence(14, "NoSuchElementException if there is none");
        b.refused(ELEMENT, "broken(0) of nothing", States::empty, x -> x.broken(0));
        b.refused(ELEMENT, "broken(63) of nothing", States::empty, x -> x.broken(63));
        b.refused(ELEMENT, "broken(1) of x0", () -> Check.formula(1, 1), x -> x.broken(1));
        b.refused(ELEMENT, "broken(1), x0 32 times", () -> States.fullOfClauses(6), x -> x.broken(1));
    }
}
