/** Promises 24 to 30: trees, widths, games. */
public final class TreesTest {
    private static final Check CHECK = new Check();
    private static final int[] ALL_OF_THREE = {13, 14, 16, 17, 22, 23, 25, 26};

    public static void main(String[] args) {
        promises24to30ordinary();
        promises24to30edges();
        promise27();
        promise28();
        promise29();
        promise30();
        changes();
        CHECK.end("TreesTest");
    }

    private static void dueLeast(String name, Proofweigh x, int size, int depth, int weight, int width, int pebbles) {
        CHECK.due(name + ": treeSize", size, x::treeSize);
        CHECK.due(name + ": treeDepth", depth, x::treeDepth);
        CHECK.due(name + ": treeWeight", weight, x::treeWeight);
        CHECK.due(name + ": width", width, x::width);
        CHECK.due(name + ": pebbles", pebbles, x::pebbles);
        CHECK.due(name + ": isTrue", true, x::isTrue);
    }

    private static void promises24to30ordinary() {
        dueLeast("x and not x", Check.formula(1, 1, 2), 3, 1, 1, 1, 1);
        dueLeast("all of two", Check.formula(2, 4, 5, 7, 8), 7, 2, 2, 2, 2);
        dueLeast("all of three", Check.formula(3, ALL_OF_THREE), 15, 3, 3, 3, 3);
        Proofweigh x = new Proofweigh();
        x.holes(3, 2);
        dueLeast("holes(3, 2)", x, 21, 4, 2, 2, 3);
        x.ring(3);
        dueLeast("ring(3)", x, 11, 3, 2, 2, 3);
        x.ring(4);
        dueLeast("ring(4)", x, 15, 3, 2, 2, 3);
        // The row is halved: its depth grows slower than its size, and its weight not at all.
        x.stair(6);
        dueLeast("stair(6)", x, 13, 3, 1, 2, 2);
        x.stair(3);
        x.lift();
        CHECK.due("stair(3) lifted: treeSize", 31, x::treeSize);
        CHECK.due("stair(3) lifted: width", 4, x::width);
        CHECK.due("stair(3) lifted: pebbles", 4, x::pebbles);
    }

    private static void promises24to30edges() {
        dueLeast("the empty clause", Check.formula(1, 0), 1, 0, 0, 0, 0);
        dueLeast("the empty clause behind others", Check.formula(6, 364, 1, 2, 0), 1, 0, 0, 0, 0);
        Proofweigh x = new Proofweigh();
        dueThrow("nothing", x);
        dueThrow("x", Check.formula(1, 1));
        Proofweigh y = Check.formula(6, 243);
        dueThrow("one variable of six", y);
        y.add(486);
        dueLeast("one variable of six, both ways", y, 3, 1, 1, 1, 1);
    }

    private static void dueThrow(String name, Proofweigh x) {
        CHECK.due(name + ": treeSize", Check.ELEMENT, x::treeSize);
        CHECK.due(name + ": treeDepth", Check.ELEMENT, x::treeDepth);
        CHECK.due(name + ": treeWeight", Check.ELEMENT, x::treeWeight);
        CHECK.due(name + ": ask", Check.ELEMENT, () -> x.ask(0));
        CHECK.due(name + ": width", Check.ELEMENT, x::width);
        CHECK.due(name + ": pebbles", Check.ELEMENT, x::pebbles);
        CHECK.due(name + ": isTrue", true, x::isTrue);
    }

    private static void promise27() {
        Proofweigh x = Check.formula(3, 9, 2 + 18, 1 + 18);
        CHECK.due("x2 first", 2, () -> x.ask(0));
        CHECK.due("x2 when x0 is true", 2, () -> x.ask(1));
        CHECK.due("x2 when x0 is false", 2, () -> x.ask(2));
        CHECK.due("x2 when x1 is told, too", 2, () -> x.ask(2 + 6));
        CHECK.due("x0 when x2 is true", 0, () -> x.ask(9));
        CHECK.due("false: x2 is false", Check.ELEMENT, () -> x.ask(18));
        CHECK.due("false: x0 and x2 are true", Check.ELEMENT, () -> x.ask(1 + 9));
        CHECK.due("no such answers", Check.ARGUMENT, () -> x.ask(27));
        CHECK.due("answers below 0", Check.ARGUMENT, () -> x.ask(-1));
        CHECK.due("the lowest of the least ones", 0, () -> Check.formula(2, 1, 5, 6).ask(0));
        Proofweigh y = Check.formula(2, 3, 6);
        CHECK.due("not the lowest one, but the least", 1, () -> y.ask(0));
        Proofweigh z = Check.formula(2, 1);
        CHECK.due("no such answers before a model", Check.ARGUMENT, () -> z.ask(9));
        CHECK.due("a model, and a clause is false", Check.ELEMENT, () -> z.ask(2));
        Proofweigh w = Check.formula(1, 0);
        CHECK.due("the empty clause is false", Check.ELEMENT, () -> w.ask(0));
        CHECK.due("the last answers of six", Check.ELEMENT, () -> Check.formula(6, 1, 2).ask(728));
    }

    private static void promise28() {
        // The clause of three has to be there, so that the empty clause comes.
        Proofweigh x = Check.formula(3, 13, 2, 6, 18);
        CHECK.due("a wide clause that is needed", 3, x::width);
        // Neither the wide clause nor its resolvents are needed.
        Proofweigh y = Check.formula(6, 364, 1, 2);
        CHECK.due("a wide clause that is not needed", 1, y::width);
        // The clauses of two give nothing but clauses of three on the way.
        Proofweigh z = new Proofweigh();
        z.ring(6);
        CHECK.due("ring(6)", 2, z::width);
    }

    private static void promise29() {
        Proofweigh x = Check.formula(2, 1, 5, 6, 6);
        CHECK.due("saturated(0)", 0, () -> x.saturated(0));
        CHECK.due("saturated(1): not by a wider clause", 2, () -> x.saturated(1));
        CHECK.due("saturated(2): x0, x0 denied or x1, x1 denied, x1, x0 denied, empty", 6, () -> x.saturated(2));
        CHECK.due("saturated(6): no more", 6, () -> x.saturated(6));
        CHECK.due("saturated(7)", Check.ARGUMENT, () -> x.saturated(7));
        CHECK.due("saturated(-1)", Check.ARGUMENT, () -> x.saturated(-1));
        Proofweigh y = Check.formula(4, 1 + 3 + 9, 2 + 27);
        CHECK.due("a resolvent of three", 3, () -> y.saturated(3));
        CHECK.due("none of two", 1, () -> y.saturated(2));
        Proofweigh z = Check.formula(2, 4, 8);
        CHECK.due("not both ways", 2, () -> z.saturated(6));
        Proofweigh w = new Proofweigh();
        CHECK.due("of nothing", 0, () -> w.saturated(6));
        w.add(0);
        CHECK.due("the empty clause has the width 0", 1, () -> w.saturated(0));
        w.holes(3, 2);
        CHECK.due("holes(3, 2)", 73, () -> w.saturated(2));
        CHECK.due("holes(3, 2)", 73, () -> w.saturated(3));
    }

    private static void promise30() {
        // A wide clause costs no pebbles more than the game needs: one false literal after the other.
        Proofweigh x = Check.formula(3, 13, 2, 6, 18);
        CHECK.due("three units and a clause of three", 3, x::pebbles);
        Proofweigh y = new Proofweigh();
        y.ring(6);
        CHECK.due("ring(6)", 3, y::pebbles);
        y.stair(6);
        CHECK.due("stair(6)", 2, y::pebbles);
        y.stair(1);
        CHECK.due("stair(1)", 1, y::pebbles);
    }

    /** What was found is not kept beyond a change of the formula. */
    private static void changes() {
        Proofweigh x = Check.formula(3, ALL_OF_THREE);
        dueLeast("before", x, 15, 3, 3, 3, 3);
        x.add(1);
        dueLeast("with x0", x, 9, 3, 2, 3, 3);
        x.add(2);
        dueLeast("with both", x, 3, 1, 1, 1, 1);
        x.clear();
        dueThrow("cleared", x);
        x.add(9);
        x.add(18);
        dueLeast("with others", x, 3, 1, 1, 1, 1);
        x.ring(3);
        dueLeast("a ring", x, 11, 3, 2, 2, 3);
        x.lift();
        CHECK.due("a ring lifted", true, () -> x.width() > 2 && x.isTrue());
        x.variables(2);
        dueThrow("begun anew", x);
    }
}
