/** Calls to which several exceptions apply: the one listed first is thrown, and nothing changes. */
final class OrderBoundary {
    private static final Class<?> ARGUMENT = Check.ARGUMENT;
    private static final Class<?> STATE = Check.STATE;
    private static final Class<?> INDEX = Check.INDEX;
    private static final Class<?> UNSUPPORTED = Check.UNSUPPORTED;
    private static final Class<?> ELEMENT = Check.ELEMENT;
    private static final int TERMS = Boundary.TERMS;
    private static final int[] BEYOND = {Boundary.MIN, -1, Boundary.MAX};

    private OrderBoundary() {}

    static void check(Boundary b) {
        b.sentence(TERMS, "If several exceptions apply, the exception listed first is thrown.");
        formulas(b);
        lines(b);
        resolvents(b);
        trees(b);
        planes(b);
        sums(b);
        quotients(b);
        polynomials(b);
        lemmas(b);
        strategies(b);
        b.sentence(TERMS, "A method that throws an exception changes nothing.");
        unchanged(b, "mixed", States::mixed);
        unchanged(b, "wide", States::wide);
        unchanged(b, "full", States::full);
        unchanged(b, "empty", States::empty);
        unchanged(b, "ended", States::ended);
        searchedBefore(b);
    }

    /** x0 in two variables, as often as there can be clauses. */
    private static Proofweigh fullOfOnes() {
        return States.fullOfClauses(2);
    }

    private static void formulas(Boundary b) {
        for (int beyond : new int[] {Boundary.MIN, -1, 9, Boundary.MAX}) {
            b.refused(ARGUMENT, "add(" + beyond + ") when there are 32", OrderBoundary::fullOfOnes, x -> x.add(beyond));
        }
        for (int beyond : new int[] {Boundary.MIN, -1, 4, Boundary.MAX}) {
            b.refused(ARGUMENT, "broken(" + beyond + ") where no clause is false", () -> Check.formula(2),
                    x -> x.broken(beyond));
        }
        b.refused(UNSUPPORTED, "lift() to too many of both", () -> States.fullOfClauses(4), x -> x.lift());
        b.refused(ARGUMENT, "holes(0, 7), and both out of range", States::mixed, x -> x.holes(0, 7));
        b.refused(ARGUMENT, "chance(7, 33, 0), and both out of range", States::mixed, x -> x.chance(7, 33, 0));
    }

    private static void lines(Boundary b) {
        for (int beyond : new int[] {Boundary.MIN, -1, 3, Boundary.MAX}) {
            b.refused(INDEX, "line(" + beyond + ") when there are 40", States::fullOfLines, x -> x.line(beyond));
        }
        for (char what : new char[] {'x', 0, 'S', 0xFFFF}) {
            String call = "proof((char) " + (int) what + ") without an end";
            b.refused(ARGUMENT, call, States::fullOfLines, x -> x.proof(what));
            b.refused(ARGUMENT, call, States::empty, x -> x.proof(what));
        }
        b.refused(ELEMENT, "space() of 40 lines without an end", States::fullOfLines, x -> x.space());
        b.refused(ELEMENT, "space() of 39 lines of which 38 are needed for the last one", () -> {
            Proofweigh x = LinesBoundary.walk(34);
            x.cut(39);
            return x;
        }, x -> x.space());
        b.refused(ELEMENT, "toPlanes() of 40 lines without an end, when there are 80", OrderBoundary::fullWithoutEnd,
                x -> x.toPlanes());
    }

    /** 40 lines without an end, and 80 planes. */
    private static Proofweigh fullWithoutEnd() {
        Proofweigh x = States.fullOfLines();
        for (int plane = 0; plane < 80; plane++) {
            x.plane(plane % 3);
        }
        return x;
    }

    private static void resolvents(Boundary b) {
        Boundary.Made[] states = {() -> States.linesLeft(2), States::fullOfLines};
        for (int state = 0; state < states.length; state++) {
            Boundary.Made made = states[state];
            String when = state == 0 ? "" : " when there are 40";
            int count = state == 0 ? 38 : 40;
            for (int beyond : new int[] {Boundary.MIN, -1, count, Boundary.MAX}) {
                b.refused(INDEX, "resolve(" + beyond + ", 1, 0)" + when, made, x -> x.resolve(beyond, 1, 0));
                b.refused(INDEX, "resolve(" + beyond + ", 0, 0), which has it not denied" + when, made,
                        x -> x.resolve(beyond, 0, 0));
                b.refused(INDEX, "resolve(0, " + beyond + ", 0)" + when, made, x -> x.resolve(0, beyond, 0));
                b.refused(INDEX, "resolve(1, " + beyond + ", 0), which has it denied" + when, made,
                        x -> x.resolve(1, beyond, 0));
                for (int variable : new int[] {Boundary.MIN, -1, 2, Boundary.MAX}) {
                    String last = ", " + variable + ")" + when;
                    b.refused(INDEX, "resolve(" + beyond + ", 1" + last, made, x -> x.resolve(beyond, 1, variable));
                    b.refused(INDEX, "resolve(0, " + beyond + last, made, x -> x.resolve(0, beyond, variable));
                    b.refused(INDEX, "resolve(" + beyond + ", " + beyond + last, made,
                            x -> x.resolve(beyond, beyond, variable));
                }
            }
            for (int variable : new int[] {Boundary.MIN, -1, 2, Boundary.MAX}) {
                b.refused(ARGUMENT, "resolve(0, 1, " + variable + ")" + when, made, x -> x.resolve(0, 1, variable));
                b.refused(ARGUMENT, "resolve(1, 1, " + variable + ")" + when, made, x -> x.resolve(1, 1, variable));
            }
            b.refused(UNSUPPORTED, "resolve(0, 1, 1), x1 not denied" + when, made, x -> x.resolve(0, 1, 1));
            b.refused(UNSUPPORTED, "resolve(1, 0, 0), the other way round" + when, made, x -> x.resolve(1, 0, 0));
            b.refused(UNSUPPORTED, "resolve(0, 0, 0), of the same" + when, made, x -> x.resolve(0, 0, 0));
        }
        b.refused(UNSUPPORTED, "resolve(0, 1, 0), x1 both ways, when there are 40", () -> {
            Proofweigh x = Check.formula(2, 4, 8);
            for (int line = 0; line < 40; line++) {
                x.line(line % 2);
            }
            return x;
        }, x -> x.resolve(0, 1, 0));
    }

    private static void trees(Boundary b) {
        for (int beyond : new int[] {Boundary.MIN, -1, 9, Boundary.MAX}) {
            b.refused(ARGUMENT, "ask(" + beyond + ") of what some values keep", () -> Check.formula(2, 1), x -> x.ask(beyond));
            b.refused(ARGUMENT, "ask(" + beyond + ") of the empty clause", () -> Check.formula(2, 0), x -> x.ask(beyond));
        }
        b.refused(ARGUMENT, "ask(3) where ask(2) has a false clause", States::contrary, x -> x.ask(3));
    }

    private static void planes(Boundary b) {
        for (int beyond : new int[] {Boundary.MIN, -1, 1, Boundary.MAX}) {
            b.refused(INDEX, "plane(" + beyond + ") when there are 80", States::fullOfPlanes, x -> x.plane(beyond));
        }
        for (int beyond : new int[] {Boundary.MIN, -1, 2, Boundary.MAX}) {
            b.refused(ARGUMENT, "bound(" + beyond + ", true) when there are 80", States::fullOfPlanes,
                    x -> x.bound(beyond, true));
            b.refused(ARGUMENT, "bound(" + beyond + ", false) when there are 80", States::fullOfPlanes,
                    x -> x.bound(beyond, false));
        }
        for (int beyond : new int[] {Boundary.MIN, -1, 80, Boundary.MAX}) {
            for (int variable : new int[] {Boundary.MIN, -2, 2, Boundary.MAX}) {
                b.refused(INDEX, "planeAt(" + beyond + ", " + variable + ")", States::fullOfPlanes,
                        x -> x.planeAt(beyond, variable));
            }
        }
        b.refused(INDEX, "planeAt(0, 6) of nothing", States::empty, x -> x.planeAt(0, 6));
    }

    /** That nothing is at least 9999, as the plane 4, and others, until there is but some room. */
    private static Proofweigh grown(int room) {
        Proofweigh x = PlanesBoundary.grownEmpty();
        for (int plane = 5; plane < 80 - room; plane++) {
            x.bound(plane % 6, true);
        }
        return x;
    }

    private static void sums(Boundary b) {
        for (int room = 0; room <= 2; room += 2) {
            int left = room;
            Boundary.Made made = () -> grown(left);
            String when = room == 0 ? " when there are 80" : "";
            for (int beyond : new int[] {Boundary.MIN, -1, 80 - room, Boundary.MAX}) {
                b.refused(INDEX, "sum(" + beyond + ", 9, 4, 9)" + when, made, x -> x.sum(beyond, 9, 4, 9));
                b.refused(INDEX, "sum(4, 9, " + beyond + ", 9)" + when, made, x -> x.sum(4, 9, beyond, 9));
                for (int times : new int[] {Boundary.MIN, 0, 10, Boundary.MAX}) {
                    b.refused(INDEX, "sum(" + beyond + ", " + times + ", 4, 1)" + when, made,
                            x -> x.sum(beyond, times, 4, 1));
                    b.refused(INDEX, "sum(" + beyond + ", 1, 4, " + times + ")" + when, made,
                            x -> x.sum(beyond, 1, 4, times));
                    b.refused(INDEX, "sum(4, " + times + ", " + beyond + ", 1)" + when, made,
                            x -> x.sum(4, times, beyond, 1));
                    b.refused(INDEX, "sum(4, 1, " + beyond + ", " + times + ")" + when, made,
                            x -> x.sum(4, 1, beyond, times));
                }
            }
            for (int times : new int[] {Boundary.MIN, -1, 0, 10, Boundary.MAX}) {
                b.refused(ARGUMENT, "sum(4, " + times + ", 4, 9)" + when, made, x -> x.sum(4, times, 4, 9));
                b.refused(ARGUMENT, "sum(4, 9, 4, " + times + ")" + when, made, x -> x.sum(4, 9, 4, times));
                b.refused(ARGUMENT, "sum(4, " + times + ", 4, " + times + ")" + when, made, x -> x.sum(4, times, 4, times));
            }
            b.refused(UNSUPPORTED, "sum(4, 1, 0, 1), a bound of 10000" + when, made, x -> x.sum(4, 1, 0, 1));
            b.refused(UNSUPPORTED, "sum(4, 9, 4, 9)" + when, made, x -> x.sum(4, 9, 4, 9));
        }
        b.refused(STATE, "sum(4, 1, 5, 1), a bound of 9998, when there are 80", () -> grown(0), x -> x.sum(4, 1, 5, 1));
        b.allowed(79, "sum(4, 1, 5, 1) when there are 79", () -> grown(1), x -> x.sum(4, 1, 5, 1));
    }

    private static void quotients(Boundary b) {
        for (int room = 0; room <= 2; room += 2) {
            int left = room;
            Boundary.Made made = () -> grown(left);
            String when = room == 0 ? " when there are 80" : "";
            for (int beyond : new int[] {Boundary.MIN, -1, 80 - room, Boundary.MAX}) {
                b.refused(INDEX, "divide(" + beyond + ", 2)" + when, made, x -> x.divide(beyond, 2));
                for (int by : new int[] {Boundary.MIN, -1, 0, 1, 100, Boundary.MAX}) {
                    b.refused(INDEX, "divide(" + beyond + ", " + by + ")" + when, made, x -> x.divide(beyond, by));
                }
            }
            for (int by : new int[] {Boundary.MIN, -2, -1, 0, 1, 100, Boundary.MAX}) {
                b.refused(ARGUMENT, "divide(5, " + by + "), no multiple" + when, made, x -> x.divide(5, by));
                b.refused(ARGUMENT, "divide(4, " + by + ")" + when, made, x -> x.divide(4, by));
            }
            b.refused(UNSUPPORTED, "divide(5, 2), no multiple" + when, made, x -> x.divide(5, 2));
            b.refused(UNSUPPORTED, "divide(5, 99), no multiple" + when, made, x -> x.divide(5, 99));
        }
        b.refused(STATE, "divide(4, 99) when there are 80", () -> grown(0), x -> x.divide(4, 99));
        b.allowed(79, "divide(4, 99) when there are 79", () -> grown(1), x -> x.divide(4, 99));
    }

    private static void polynomials(Boundary b) {
        for (int beyond : new int[] {Boundary.MIN, -1, 5, Boundary.MAX}) {
            b.refused(INDEX, "term(" + beyond + ", 4, 0)", States::mixed, x -> x.term(beyond, 4, 0));
            b.refused(INDEX, "term(" + beyond + ", 2, 8)", States::mixed, x -> x.term(beyond, 2, 8));
            b.refused(INDEX, "term(" + beyond + ", 0, -1)", States::mixed, x -> x.term(beyond, 0, -1));
            b.refused(INDEX, "side(" + beyond + ", 2)", States::mixed, x -> x.side(beyond, 2));
            b.refused(INDEX, "side(" + beyond + ", -1)", States::mixed, x -> x.side(beyond, -1));
        }
        for (int prime : new int[] {Boundary.MIN, -2, 0, 1, 4, 6, 8, 11, Boundary.MAX}) {
            for (Boundary.Made made : new Boundary.Made[] {States::empty, States::wide, () -> States.fullOfClauses(6)}) {
                b.refused(ARGUMENT, "staticDegree(" + prime + ") of what some values keep", made, x -> x.staticDegree(prime));
                b.refused(ARGUMENT, "degree(" + prime + ") of what some values keep", made, x -> x.degree(prime));
            }
        }
    }

    private static void lemmas(Boundary b) {
        for (int beyond : new int[] {Boundary.MIN, -1, 9, Boundary.MAX}) {
            b.refused(ARGUMENT, "lemma(" + beyond + ") when there are 20", States::fullOfLemmas, x -> x.lemma(beyond));
            b.refused(ARGUMENT, "lemma(" + beyond + ") where nothing follows", () -> Check.formula(2), x -> x.lemma(beyond));
        }
        b.refused(UNSUPPORTED, "lemma(0), which does not follow by units, when there are 20", States::fullOfLemmas,
                x -> x.lemma(0));
    }

    private static void strategies(Boundary b) {
        Boundary.Made made = () -> {
            Proofweigh x = Check.formula(2, 0);
            x.quantor(1, 'a');
            return x;
        };
        for (int beyond : BEYOND) {
            b.refused(ARGUMENT, "strategy(" + beyond + ", 0) that does not hold", made, x -> x.strategy(beyond, 0));
            b.refused(ARGUMENT, "strategy(0, " + beyond + ") that does not hold", made, x -> x.strategy(0, beyond));
            b.refused(ARGUMENT, "strategy(1, " + beyond + ") for all", made, x -> x.strategy(1, beyond));
            b.refused(ARGUMENT, "quantor(" + beyond + ", 'x')", made, x -> x.quantor(beyond, 'x'));
        }
        b.refused(ARGUMENT, "strategy(2, 0) that does not hold", made, x -> x.strategy(2, 0));
        b.refused(ARGUMENT, "strategy(0, 4) that does not hold", made, x -> x.strategy(0, 4));
        b.refused(ARGUMENT, "strategy(1, 0) for all that does not hold", made, x -> x.strategy(1, 0));
        b.refused(ELEMENT, "strategy(0, 0) that does not hold", made, x -> x.strategy(0, 0));
    }

    /** Makes calls of all kinds that are refused, all on one object, and expects that it shows what it did. */
    private static void unchanged(Boundary b, String name, Boundary.Made made) {
        Proofweigh x = made.make();
        for (int beyond : BEYOND) {
            b.due(ARGUMENT, "variables", () -> x.variables(beyond));
            b.due(ARGUMENT, "add", () -> x.add(beyond));
            b.due(INDEX, "clause", () -> x.clause(beyond));
            b.due(ARGUMENT, "holes", () -> x.holes(beyond, 1));
            b.due(ARGUMENT, "holes", () -> x.holes(1, beyond));
            b.due(ARGUMENT, "ring", () -> x.ring(beyond));
            b.due(ARGUMENT, "stair", () -> x.stair(beyond));
            b.due(ARGUMENT, "chance", () -> x.chance(beyond, 1, 1));
            b.due(ARGUMENT, "chance", () -> x.chance(1, beyond, 1));
            b.due(ARGUMENT, "broken", () -> x.broken(beyond));
            b.due(INDEX, "line", () -> x.line(beyond));
            b.due(INDEX, "resolve", () -> x.resolve(beyond, beyond, 0));
            b.due(INDEX, "cut", () -> x.cut(beyond));
            b.due(INDEX, "lineAt", () -> x.lineAt(beyond));
            b.due(ARGUMENT, "ask", () -> x.ask(beyond));
            b.due(ARGUMENT, "saturated", () -> x.saturated(beyond));
            b.due(INDEX, "plane", () -> x.plane(beyond));
            b.due(ARGUMENT, "bound", () -> x.bound(beyond, true));
            b.due(INDEX, "sum", () -> x.sum(beyond, 1, beyond, 1));
            b.due(INDEX, "divide", () -> x.divide(beyond, 2));
            b.due(INDEX, "planeAt", () -> x.planeAt(beyond, 0));
            b.due(INDEX, "refutes", () -> x.refutes(beyond));
            b.due(INDEX, "term", () -> x.term(beyond, 2, 0));
            b.due(ARGUMENT, "staticDegree", () -> x.staticDegree(beyond));
            b.due(ARGUMENT, "degree", () -> x.degree(beyond));
            b.due(INDEX, "side", () -> x.side(beyond, 1));
            b.due(ARGUMENT, "follows", () -> x.follows(beyond));
            b.due(ARGUMENT, "lemma", () -> x.lemma(beyond));
            b.due(ARGUMENT, "quantor", () -> x.quantor(beyond, 'a'));
            b.due(ARGUMENT, "strategy", () -> x.strategy(beyond, 0));
        }
        b.due(ARGUMENT, "proof", () -> x.proof('x'));
        b.due(ARGUMENT, "quantor", () -> x.quantor(0, 'x'));
        b.alike(name + " after many calls that were refused", made.make(), x);
    }

    /** What was found before a call that was refused is found again after it, and is new after one that was not. */
    private static void searchedBefore(Boundary b) {
        Proofweigh x = TreesBoundary.stair(6);
        String due = leastOnes(x);
        for (int beyond : BEYOND) {
            b.due(ARGUMENT, "add(" + beyond + ")", () -> x.add(beyond));
            b.due(ARGUMENT, "stair(" + beyond + ")", () -> x.stair(beyond));
            b.due(ARGUMENT, "variables(" + beyond + ")", () -> x.variables(beyond));
            b.due(UNSUPPORTED, "lift()", () -> x.lift());
            b.due(due, "the least ones after that", () -> leastOnes(x));
        }
        b.due(7, "add(0)", () -> x.add(0));
        b.due("1 0 0 0 0 0 0", "the least ones with the empty clause", () -> leastOnes(x));
        b.due(8, "clear()", () -> x.clear());
        b.due(ELEMENT, "width() then", () -> x.width());
        b.due(0, "add(1)", () -> x.add(1));
        b.due(1, "add(2)", () -> x.add(2));
        b.due("3 1 1 1 1 1 1", "the least ones of x0 and x0 denied", () -> leastOnes(x));
    }

    private static String leastOnes(Proofweigh x) {
        return x.treeSize() + " " + x.treeDepth() + " " + x.treeWeight() + " " + x.width() + " " + x.pebbles() + " "
                + x.degree(5) + " " + x.staticDegree(5);
    }
}
