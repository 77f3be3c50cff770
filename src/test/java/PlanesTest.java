/** Promises 31 to 38: planes. */
public final class PlanesTest {
    private static final Check CHECK = new Check();

    public static void main(String[] args) {
        promise31();
        promise32();
        promise33();
        promise33limits();
        promise34();
        promise35();
        promise36();
        promise37();
        promise37rests();
        promise37limits();
        CHECK.end("PlanesTest");
    }

    /** Expects the coefficients of a plane, and then its bound. */
    private static void duePlane(String name, Proofweigh x, int plane, int... numbers) {
        for (int place = 0; place < numbers.length; place++) {
            int variable = place == numbers.length - 1 ? -1 : place;
            CHECK.due(name + ": planeAt(" + plane + ", " + variable + ")", numbers[place],
                    () -> x.planeAt(plane, variable));
        }
    }

    private static void fill(Proofweigh x) {
        while (x.planes() < 80) {
            x.bound(0, false);
        }
    }

    private static void promise31() {
        Proofweigh x = Check.formula(3, 1 + 6 + 18, 0, 1);
        CHECK.due("plane(0)", 0, () -> x.plane(0));
        duePlane("x0 or not x1 or not x2", x, 0, 1, -1, -1, -1);
        CHECK.due("plane(1)", 1, () -> x.plane(1));
        duePlane("the empty clause", x, 1, 0, 0, 0, 1);
        CHECK.due("plane(0) again", 2, () -> x.plane(0));
        CHECK.due("plane(3)", Check.INDEX, () -> x.plane(3));
        CHECK.due("plane(-1)", Check.INDEX, () -> x.plane(-1));
        CHECK.due("planes", 3, x::planes);
        fill(x);
        CHECK.due("plane(0) when full", Check.STATE, () -> x.plane(0));
        CHECK.due("plane(3) when full", Check.INDEX, () -> x.plane(3));
        CHECK.due("planes when full", 80, x::planes);
        Proofweigh y = Check.formula(6, 728);
        y.plane(0);
        duePlane("all denied", y, 0, -1, -1, -1, -1, -1, -1, -5);
    }

    private static void promise32() {
        Proofweigh x = Check.formula(2);
        CHECK.due("bound(1, false)", 0, () -> x.bound(1, false));
        duePlane("at least 0", x, 0, 0, 1, 0);
        CHECK.due("bound(0, true)", 1, () -> x.bound(0, true));
        duePlane("at least -1", x, 1, -1, 0, -1);
        CHECK.due("bound(2, true)", Check.ARGUMENT, () -> x.bound(2, true));
        CHECK.due("bound(-1, false)", Check.ARGUMENT, () -> x.bound(-1, false));
        CHECK.due("planes", 2, x::planes);
        fill(x);
        CHECK.due("bound(0, false) when full", Check.STATE, () -> x.bound(0, false));
        CHECK.due("bound(2, false) when full", Check.ARGUMENT, () -> x.bound(2, false));
    }

    private static void promise33() {
        Proofweigh x = Check.formula(2, 1 + 3, 2 + 3);
        x.plane(0);
        x.plane(1);
        CHECK.due("sum(0, 2, 1, 3)", 2, () -> x.sum(0, 2, 1, 3));
        duePlane("the sum", x, 2, -1, 5, 2);
        CHECK.due("with itself", 3, () -> x.sum(0, 1, 0, 9));
        duePlane("ten times", x, 3, 10, 10, 10);
        CHECK.due("no such plane", Check.INDEX, () -> x.sum(4, 1, 0, 1));
        CHECK.due("no such other plane", Check.INDEX, () -> x.sum(0, 1, 4, 1));
        CHECK.due("below 0", Check.INDEX, () -> x.sum(-1, 1, 0, 1));
        CHECK.due("no such plane before a number", Check.INDEX, () -> x.sum(0, 0, -1, 1));
        CHECK.due("0 times", Check.ARGUMENT, () -> x.sum(0, 0, 0, 1));
        CHECK.due("10 times", Check.ARGUMENT, () -> x.sum(0, 10, 0, 1));
        CHECK.due("the other one 0 times", Check.ARGUMENT, () -> x.sum(0, 1, 0, 0));
        CHECK.due("the other one 10 times", Check.ARGUMENT, () -> x.sum(0, 1, 0, 10));
        CHECK.due("planes", 4, x::planes);
        CHECK.due("isTrue", true, x::isTrue);
    }

    /** From a plane of ones: the number of one that is 9999 times as much. */
    private static int grow(Proofweigh x, int one) {
        int ten = x.sum(one, 9, one, 1);
        int hundred = x.sum(ten, 9, ten, 1);
        int thousand = x.sum(hundred, 9, hundred, 1);
        int more = x.sum(thousand, 1, hundred, 1);
        int all = x.sum(more, 1, ten, 1);
        return x.sum(all, 9, one, 9);
    }

    private static void promise33limits() {
        Proofweigh x = Check.formula(1, 1);
        x.plane(0);
        int most = grow(x, 0);
        duePlane("the most", x, most, 9999, 9999);
        CHECK.due("beyond", Check.UNSUPPORTED, () -> x.sum(most, 1, 0, 1));
        CHECK.due("far beyond", Check.UNSUPPORTED, () -> x.sum(most, 9, most, 9));
        x.bound(0, true);
        int denied = x.planes() - 1;
        int least = grow(x, denied);
        duePlane("the least", x, least, -9999, -9999);
        CHECK.due("below", Check.UNSUPPORTED, () -> x.sum(least, 1, denied, 1));
        CHECK.due("the least and the most", x.planes(), () -> x.sum(least, 1, most, 1));
        x.bound(0, false);
        int zero = x.planes() - 1;
        int bare = grow(x, zero);
        duePlane("a coefficient alone", x, bare, 9999, 0);
        CHECK.due("a coefficient alone beyond", Check.UNSUPPORTED, () -> x.sum(bare, 1, zero, 1));
        x.sum(0, 1, denied, 1);
        x.sum(most, 1, denied, 1);
        fill(x);
        CHECK.due("when full", Check.STATE, () -> x.sum(0, 1, 0, 1));
        CHECK.due("beyond, when full", Check.UNSUPPORTED, () -> x.sum(most, 1, 0, 1));
        CHECK.due("no such number, when full", Check.ARGUMENT, () -> x.sum(0, 0, 0, 1));
        Proofweigh y = Check.formula(1, 0);
        y.plane(0);
        int bound = grow(y, 0);
        duePlane("a bound alone", y, bound, 0, 9999);
        CHECK.due("a bound alone beyond", Check.UNSUPPORTED, () -> y.sum(bound, 1, 0, 1));
    }

    private static void promise34() {
        Proofweigh x = Check.formula(2, 1 + 3, 2 + 3);
        x.plane(0);
        x.plane(1);
        x.sum(0, 1, 1, 1);
        CHECK.due("divide(2, 2)", 3, () -> x.divide(2, 2));
        duePlane("1 by 2 is rounded up", x, 3, 0, 1, 1);
        x.bound(0, true);
        x.bound(0, false);
        x.sum(4, 3, 5, 1);
        duePlane("-2 and -3", x, 6, -2, 0, -3);
        CHECK.due("divide(6, 2)", 7, () -> x.divide(6, 2));
        duePlane("-3 by 2 is rounded up", x, 7, -1, 0, -1);
        CHECK.due("no multiple", Check.UNSUPPORTED, () -> x.divide(6, 3));
        CHECK.due("one is a multiple, one is not", Check.UNSUPPORTED, () -> x.divide(0, 2));
        CHECK.due("no such plane", Check.INDEX, () -> x.divide(8, 2));
        CHECK.due("no such plane before by", Check.INDEX, () -> x.divide(-1, 1));
        CHECK.due("by 1", Check.ARGUMENT, () -> x.divide(2, 1));
        CHECK.due("by 0", Check.ARGUMENT, () -> x.divide(2, 0));
        CHECK.due("by -2", Check.ARGUMENT, () -> x.divide(2, -2));
        CHECK.due("by 100", Check.ARGUMENT, () -> x.divide(2, 100));
        x.sum(4, 1, 5, 1);
        CHECK.due("by 99", 9, () -> x.divide(8, 99));
        duePlane("0 is a multiple, -1 by 99 is rounded up", x, 9, 0, 0, 0);
        fill(x);
        CHECK.due("when full", Check.STATE, () -> x.divide(2, 2));
        CHECK.due("no multiple, when full", Check.UNSUPPORTED, () -> x.divide(0, 2));
    }

    private static void promise35() {
        Proofweigh x = Check.formula(2, 1 + 6);
        x.plane(0);
        CHECK.due("planeAt(0, 1)", -1, () -> x.planeAt(0, 1));
        CHECK.due("planeAt(0, -1)", 0, () -> x.planeAt(0, -1));
        CHECK.due("planeAt(0, -2)", Check.ARGUMENT, () -> x.planeAt(0, -2));
        CHECK.due("planeAt(0, 2)", Check.ARGUMENT, () -> x.planeAt(0, 2));
        CHECK.due("planeAt(1, 0)", Check.INDEX, () -> x.planeAt(1, 0));
        CHECK.due("planeAt(-1, 9)", Check.INDEX, () -> x.planeAt(-1, 9));
    }

    private static void promise36() {
        Proofweigh x = Check.formula(2, 1, 2, 0);
        x.plane(0);
        x.plane(1);
        x.plane(2);
        x.bound(0, false);
        x.bound(0, true);
        x.sum(3, 1, 4, 1);
        CHECK.due("a coefficient is there", false, () -> x.refutes(0));
        CHECK.due("the empty clause", true, () -> x.refutes(2));
        CHECK.due("0 is at least -1", false, () -> x.refutes(5));
        x.sum(0, 1, 1, 1);
        CHECK.due("0 is at least 1", true, () -> x.refutes(6));
        x.sum(2, 1, 5, 1);
        CHECK.due("0 is at least 0", false, () -> x.refutes(7));
        CHECK.due("refutes(8)", Check.INDEX, () -> x.refutes(8));
        CHECK.due("refutes(-1)", Check.INDEX, () -> x.refutes(-1));
        CHECK.due("isTrue", true, x::isTrue);
    }

    private static void promise37() {
        Proofweigh x = Check.formula(3, 1 + 3, 2 + 3 + 9, 6, 18, 13);
        x.plane(0);
        x.plane(0);
        CHECK.due("no end", Check.ELEMENT, x::toPlanes);
        CHECK.due("planes after what throws", 2, x::planes);
        Check.putAll(x);
        x.resolve(0, 1, 0);
        x.resolve(5, 2, 1);
        x.resolve(6, 3, 2);
        // Four clauses; twice a sum, two for x2, and a quotient; then a sum and a quotient.
        CHECK.due("toPlanes", 14, x::toPlanes);
        CHECK.due("planes", 14, x::planes);
        duePlane("clause 0", x, 0, 1, 1, 0, 1);
        duePlane("clause 1", x, 1, -1, 1, 1, 0);
        duePlane("clause 2", x, 2, 0, -1, 0, 0);
        duePlane("clause 3", x, 3, 0, 0, -1, 0);
        duePlane("the sum of both", x, 4, 0, 2, 1, 1);
        duePlane("x2 is at least 0", x, 5, 0, 0, 1, 0);
        duePlane("the sum with it", x, 6, 0, 2, 2, 1);
        duePlane("x1 or x2", x, 7, 0, 1, 1, 1);
        duePlane("the next sum", x, 8, 0, 0, 1, 1);
        duePlane("x2 is at least 0 again", x, 9, 0, 0, 1, 0);
        duePlane("the sum with it", x, 10, 0, 0, 2, 1);
        duePlane("x2", x, 11, 0, 0, 1, 1);
        duePlane("the last sum", x, 12, 0, 0, 0, 1);
        duePlane("the end", x, 13, 0, 0, 0, 1);
        CHECK.due("isTrue", true, x::isTrue);
    }

    private static void promise37rests() {
        Proofweigh x = Check.formula(2, 1, 2 + 6, 3);
        Check.putAll(x);
        x.resolve(0, 1, 0);
        x.resolve(2, 3, 1);
        CHECK.due("toPlanes", 3 + 4 + 2, x::toPlanes);
        duePlane("the sum of both", x, 3, 0, -1, 0);
        duePlane("x1 denied is at least -1", x, 4, 0, -1, -1);
        duePlane("the sum with it", x, 5, 0, -2, -1);
        duePlane("the last one by 2", x, 6, 0, -1, 0);
        duePlane("the end before it is divided", x, 7, 0, 0, 1);
        duePlane("the end", x, 8, 0, 0, 1);
        CHECK.due("it refutes", true, () -> x.refutes(8));
        CHECK.due("once more, from the start", 9, x::toPlanes);
        x.resolve(0, 1, 0);
        CHECK.due("what is not needed is not moved", 9, x::toPlanes);
        Proofweigh y = Check.formula(2, 0);
        y.bound(1, true);
        y.line(0);
        CHECK.due("the empty clause alone", 1, y::toPlanes);
        duePlane("the empty clause alone", y, 0, 0, 0, 1);
    }

    /** A proof of 77 planes, and one more for each clause of the second half that is put twice. */
    private static Proofweigh wide(int again) {
        Proofweigh x = Check.formula(6, 1 + 3 + 9 + 27 + 81, 2 + 3 + 9 + 27 + 81 + 243, 6, 18, 54, 162, 486);
        Check.putAll(x);
        int one = 0;
        for (int variable = 1; variable < 5; variable++) {
            one = x.resolve(one, variable + 1, variable);
        }
        int two = 1;
        for (int variable = 1; variable < 6; variable++) {
            int denied = variable <= again ? x.line(variable + 1) : variable + 1;
            two = x.resolve(two, denied, variable);
        }
        x.resolve(one, two, 0);
        return x;
    }

    private static void promise37limits() {
        CHECK.due("77 planes", 77, () -> wide(0).toPlanes());
        CHECK.due("80 planes", 80, () -> wide(3).toPlanes());
        Proofweigh x = wide(4);
        x.bound(0, true);
        CHECK.due("81 planes", Check.STATE, x::toPlanes);
        CHECK.due("planes after what throws", 1, x::planes);
        duePlane("the plane after what throws", x, 0, -1, 0, 0, 0, 0, 0, -1);
        Proofweigh y = wide(3);
        y.toPlanes();
        CHECK.due("the last of 80 refutes", true, () -> y.refutes(79));
        CHECK.due("no more", Check.STATE, () -> y.plane(0));
        CHECK.due("isTrue", true, y::isTrue);
    }
}
