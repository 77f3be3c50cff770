/** Promises 1 to 14: a new object, and formulas. */
public final class FormulasTest {
    private static final Check CHECK = new Check();

    public static void main(String[] args) {
        promise1();
        promise2();
        promise3();
        promise4();
        promise5and6();
        promise7();
        promise8();
        promise9();
        promise10();
        promise11();
        promise11edges();
        promise12and13();
        promise14();
        CHECK.end("FormulasTest");
    }

    /** An object on which all that can begin anew holds something: 2 variables, x1 is held by all. */
    private static Proofweigh used() {
        Proofweigh x = Check.formula(2, 4, 5, 6);
        Check.putAll(x);
        x.resolve(0, 1, 0);
        x.resolve(3, 2, 1);
        x.plane(0);
        x.bound(1, true);
        x.lemma(3);
        x.side(0, 1);
        x.quantor(1, 'a');
        return x;
    }

    /** Expects that everything but how many variables there are has begun anew. */
    private static void dueAnew(String call, Proofweigh x, int variables) {
        CHECK.due(call + ": lines", Check.INDEX, () -> x.lineAt(0));
        CHECK.due(call + ": an end", Check.ELEMENT, () -> x.proof('e'));
        CHECK.due(call + ": planes", 0, x::planes);
        for (int variable = 0; variable < variables; variable++) {
            int asked = variable;
            CHECK.due(call + ": quantor " + asked, 'e', () -> x.quantor(asked, 'e'));
        }
        if (x.clauses() > 0) {
            CHECK.due(call + ": side", 0, () -> x.side(0, 0));
        }
        CHECK.due(call + ": isTrue", true, x::isTrue);
        CHECK.due(call + ": variables", variables, () -> x.variables(6));
    }

    private static void promise1() {
        Proofweigh x = new Proofweigh();
        CHECK.due("new: clauses", 0, x::clauses);
        CHECK.due("new: models", 64, x::models);
        CHECK.due("new: lemma", false, () -> x.follows(0));
        dueAnew("new", x, 6);
    }

    private static void promise2() {
        Proofweigh x = used();
        CHECK.due("variables(0)", Check.ARGUMENT, () -> x.variables(0));
        CHECK.due("variables(7)", Check.ARGUMENT, () -> x.variables(7));
        CHECK.due("variables(-2147483648)", Check.ARGUMENT, () -> x.variables(Integer.MIN_VALUE));
        CHECK.due("clauses after what throws", 3, x::clauses);
        CHECK.due("end after what throws", 4, () -> x.proof('e'));
        CHECK.due("planes after what throws", 2, x::planes);
        CHECK.due("quantor after what throws", 'a', () -> x.quantor(1, 'a'));
        CHECK.due("variables(2)", 2, () -> x.variables(2));
        CHECK.due("clauses", 0, x::clauses);
        CHECK.due("the lemma is gone", false, () -> x.follows(3));
        dueAnew("variables(2)", x, 2);
        CHECK.due("variables(1)", 6, () -> x.variables(1));
        CHECK.due("models of 1", 2, x::models);
        CHECK.due("variables(6)", 1, () -> x.variables(6));
    }

    private static void promise3() {
        Proofweigh x = Check.formula(2);
        CHECK.due("add(0)", 0, () -> x.add(0));
        CHECK.due("add(8)", 1, () -> x.add(8));
        CHECK.due("add(8) again", 2, () -> x.add(8));
        CHECK.due("add(9)", Check.ARGUMENT, () -> x.add(9));
        CHECK.due("add(-1)", Check.ARGUMENT, () -> x.add(-1));
        CHECK.due("clauses", 3, x::clauses);
        for (int clause = 3; clause < 32; clause++) {
            int number = clause;
            CHECK.due("add(4)", number, () -> x.add(4));
        }
        CHECK.due("add(4) when full", Check.STATE, () -> x.add(4));
        CHECK.due("add(9) when full", Check.ARGUMENT, () -> x.add(9));
        CHECK.due("clauses", 32, x::clauses);
        Proofweigh y = new Proofweigh();
        CHECK.due("add(728)", 0, () -> y.add(728));
        CHECK.due("add(729)", Check.ARGUMENT, () -> y.add(729));
        Proofweigh z = used();
        CHECK.due("add keeps the proof", 3, () -> z.add(8));
        CHECK.due("end", 4, () -> z.proof('e'));
        CHECK.due("the lemma stays", true, () -> z.follows(3));
        CHECK.due("planes", 2, z::planes);
    }

    private static void promise4() {
        Proofweigh x = used();
        CHECK.due("clear", 3, x::clear);
        CHECK.due("clauses", 0, x::clauses);
        CHECK.due("models", 4, x::models);
        CHECK.due("lines", Check.INDEX, () -> x.lineAt(0));
        CHECK.due("planes", 0, x::planes);
        CHECK.due("the lemma is gone", false, () -> x.follows(3));
        CHECK.due("the quantor stays", 'a', () -> x.quantor(1, 'a'));
        CHECK.due("add after clear", 0, () -> x.add(8));
        CHECK.due("its side", 0, () -> x.side(0, 0));
        CHECK.due("clear again", 1, x::clear);
        CHECK.due("clear of nothing", 0, x::clear);
        CHECK.due("the variables stay", 2, () -> x.variables(2));
    }

    private static void promise5and6() {
        Proofweigh x = Check.formula(3, 26, 0, 13);
        CHECK.due("clause(0)", 26, () -> x.clause(0));
        CHECK.due("clause(1)", 0, () -> x.clause(1));
        CHECK.due("clause(2)", 13, () -> x.clause(2));
        CHECK.due("clause(3)", Check.INDEX, () -> x.clause(3));
        CHECK.due("clause(-1)", Check.INDEX, () -> x.clause(-1));
        CHECK.due("clauses", 3, x::clauses);
        x.clear();
        CHECK.due("clause(0) of none", Check.INDEX, () -> x.clause(0));
        CHECK.due("clauses of none", 0, x::clauses);
    }

    private static void dueClauses(String call, Proofweigh x, int... codes) {
        CHECK.due(call + ": clauses", codes.length, x::clauses);
        for (int clause = 0; clause < codes.length; clause++) {
            int number = clause;
            CHECK.due(call + ": clause(" + number + ")", codes[number], () -> x.clause(number));
        }
    }

    private static void promise7() {
        Proofweigh x = used();
        CHECK.due("holes(0, 1)", Check.ARGUMENT, () -> x.holes(0, 1));
        CHECK.due("holes(1, 0)", Check.ARGUMENT, () -> x.holes(1, 0));
        CHECK.due("holes(7, 1)", Check.ARGUMENT, () -> x.holes(7, 1));
        CHECK.due("holes(1, 7)", Check.ARGUMENT, () -> x.holes(1, 7));
        CHECK.due("holes(4, 2)", Check.ARGUMENT, () -> x.holes(4, 2));
        CHECK.due("holes(-2, -3)", Check.ARGUMENT, () -> x.holes(-2, -3));
        CHECK.due("holes(65536, 65536)", Check.ARGUMENT, () -> x.holes(65536, 65536));
        // As ints both products are 2.
        CHECK.due("holes(1431655766, 3)", Check.ARGUMENT, () -> x.holes(1431655766, 3));
        CHECK.due("holes(3, 1431655766)", Check.ARGUMENT, () -> x.holes(3, 1431655766));
        CHECK.due("clauses after what throws", 3, x::clauses);
        CHECK.due("holes(3, 2)", 9, () -> x.holes(3, 2));
        dueClauses("holes(3, 2)", x, 4, 36, 324, 20, 164, 180, 60, 492, 540);
        dueAnew("holes(3, 2)", x, 6);
        CHECK.due("holes(2, 1)", 3, () -> x.holes(2, 1));
        dueClauses("holes(2, 1)", x, 1, 3, 8);
        dueAnew("holes(2, 1)", x, 2);
        CHECK.due("holes(1, 6)", 1, () -> x.holes(1, 6));
        dueClauses("holes(1, 6)", x, 364);
        CHECK.due("holes(6, 1)", 21, () -> x.holes(6, 1));
        CHECK.due("holes(6, 1): clause(20)", 2 * 81 + 2 * 243, () -> x.clause(20));
        CHECK.due("holes(2, 3)", 5, () -> x.holes(2, 3));
        dueClauses("holes(2, 3)", x, 13, 351, 2 + 54, 6 + 162, 18 + 486);
        CHECK.due("holes(1, 1)", 1, () -> x.holes(1, 1));
        dueAnew("holes(1, 1)", x, 1);
    }

    private static void promise8() {
        Proofweigh x = used();
        CHECK.due("ring(2)", Check.ARGUMENT, () -> x.ring(2));
        CHECK.due("ring(7)", Check.ARGUMENT, () -> x.ring(7));
        CHECK.due("clauses after what throws", 3, x::clauses);
        CHECK.due("ring(3)", 6, () -> x.ring(3));
        dueClauses("ring(3)", x, 10, 20, 5, 7, 15, 21);
        CHECK.due("ring(3): models", 0, x::models);
        dueAnew("ring(3)", x, 3);
        CHECK.due("ring(6)", 12, () -> x.ring(6));
        CHECK.due("ring(6): clause(0)", 1 + 243, () -> x.clause(0));
        CHECK.due("ring(6): clause(1)", 2 + 486, () -> x.clause(1));
        CHECK.due("ring(6): clause(10)", 162 + 243, () -> x.clause(10));
        CHECK.due("ring(6): clause(11)", 81 + 486, () -> x.clause(11));
    }

    private static void promise9() {
        Proofweigh x = used();
        CHECK.due("stair(0)", Check.ARGUMENT, () -> x.stair(0));
        CHECK.due("stair(7)", Check.ARGUMENT, () -> x.stair(7));
        CHECK.due("clauses after what throws", 3, x::clauses);
        CHECK.due("stair(3)", 4, () -> x.stair(3));
        dueClauses("stair(3)", x, 1, 5, 15, 18);
        dueAnew("stair(3)", x, 3);
        CHECK.due("stair(1)", 2, () -> x.stair(1));
        dueClauses("stair(1)", x, 1, 2);
        dueAnew("stair(1)", x, 1);
        CHECK.due("stair(6)", 7, () -> x.stair(6));
        dueClauses("stair(6)", x, 1, 5, 15, 45, 135, 405, 486);
    }

    private static void promise10() {
        Proofweigh x = used();
        CHECK.due("chance(0, 1, 0)", Check.ARGUMENT, () -> x.chance(0, 1, 0));
        CHECK.due("chance(7, 1, 0)", Check.ARGUMENT, () -> x.chance(7, 1, 0));
        CHECK.due("chance(1, 0, 0)", Check.ARGUMENT, () -> x.chance(1, 0, 0));
        CHECK.due("chance(1, 33, 0)", Check.ARGUMENT, () -> x.chance(1, 33, 0));
        CHECK.due("clauses after what throws", 3, x::clauses);
        // z is 12345, then 1103527590, then 3191464396 without sign.
        CHECK.due("chance(1, 1, 0)", 0, () -> x.chance(1, 1, 0));
        CHECK.due("chance(1, 1, 1)", 2, () -> x.chance(1, 1, 1));
        CHECK.due("chance(1, 1, -1)", 1, () -> x.chance(1, 1, -1));
        dueAnew("chance(1, 1, -1)", x, 1);
        CHECK.due("chance(4, 12, 77)", 39, () -> x.chance(4, 12, 77));
        CHECK.due("its models", 4, x::models);
        CHECK.due("its clauses", 12, x::clauses);
        CHECK.due("chance(6, 32, 5)", 410, () -> x.chance(6, 32, 5));
        CHECK.due("the last clause", 410, () -> x.clause(31));
        dueDrawn(x, 987654321);
    }

    private static void dueDrawn(Proofweigh x, int seed) {
        x.chance(5, 7, seed);
        long z = seed;
        for (int clause = 0; clause < 7; clause++) {
            int code = 0;
            for (int variable = 0; variable < 5; variable++) {
                z = z * 1103515245L + 12345L & 0xFFFFFFFFL;
                code += (int) (z / 65536L % 3L) * (int) Math.pow(3, variable);
            }
            int number = clause;
            CHECK.due("drawn clause " + number, code, () -> x.clause(number));
        }
    }

    private static void promise11() {
        Proofweigh x = used();
        x.stair(3);
        CHECK.due("lift", 12, x::lift);
        dueClauses("lift", x, 28, 56, 139, 113, 223, 197,
                3 * 139, 3 * 113, 3 * 223, 3 * 197, 9 + 2 * 243, 18 + 243);
        dueAnew("lift", x, 6);
        Proofweigh y = used();
        CHECK.due("lift of what was used", 10, y::lift);
        CHECK.due("its variables", 4, () -> y.variables(4));
        Proofweigh z = used();
        z.lift();
        dueAnew("lift of what was used", z, 4);
    }

    private static void promise11edges() {
        Proofweigh x = Check.formula(4, 1);
        CHECK.due("lift of 4 variables", Check.UNSUPPORTED, x::lift);
        CHECK.due("clauses after what throws", 1, x::clauses);
        Proofweigh y = Check.formula(3, 13, 14, 16, 17);
        CHECK.due("lift to 32 clauses", 32, y::lift);
        CHECK.due("each one twice as wide", 6.0, y::meanWidth);
        Proofweigh z = Check.formula(3, 13, 14, 16, 17, 0);
        CHECK.due("lift to 33 clauses", Check.UNSUPPORTED, z::lift);
        CHECK.due("clauses after what throws", 5, z::clauses);
        Proofweigh w = Check.formula(1, 0, 2);
        CHECK.due("lift of the empty clause", 3, w::lift);
        dueClauses("lift of the empty clause", w, 0, 1 + 6, 2 + 3);
        Proofweigh v = Check.formula(3);
        CHECK.due("lift of no clause", 0, v::lift);
        CHECK.due("variables of no clause", 6, () -> v.variables(1));
    }

    private static void promise12and13() {
        Proofweigh x = Check.formula(3);
        CHECK.due("model of none", 0, x::model);
        CHECK.due("models of none", 8, x::models);
        x.add(9);
        CHECK.due("model of x2", 4, x::model);
        CHECK.due("models of x2", 4, x::models);
        x.add(2 + 6 + 18);
        x.add(1 + 3);
        CHECK.due("model", 5, x::model);
        CHECK.due("models", 2, x::models);
        x.add(2);
        CHECK.due("model", 6, x::model);
        x.add(18);
        CHECK.due("model of a contradiction", Check.ELEMENT, x::model);
        CHECK.due("models of a contradiction", 0, x::models);
        Proofweigh y = Check.formula(6, 1, 3, 9, 27, 81, 243);
        CHECK.due("model of all true", 63, y::model);
        CHECK.due("models of all true", 1, y::models);
    }

    private static void promise14() {
        Proofweigh x = Check.formula(2, 4, 5, 2, 5);
        CHECK.due("broken(0)", 0, () -> x.broken(0));
        CHECK.due("broken(1)", 1, () -> x.broken(1));
        CHECK.due("broken(2)", Check.ELEMENT, () -> x.broken(2));
        CHECK.due("broken(3)", 2, () -> x.broken(3));
        CHECK.due("broken(4)", Check.ARGUMENT, () -> x.broken(4));
        CHECK.due("broken(-1)", Check.ARGUMENT, () -> x.broken(-1));
        Proofweigh y = Check.formula(6, 728);
        CHECK.due("broken(63)", 0, () -> y.broken(63));
        CHECK.due("broken(62)", Check.ELEMENT, () -> y.broken(62));
        CHECK.due("broken(64)", Check.ARGUMENT, () -> y.broken(64));
    }
}
