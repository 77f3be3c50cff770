/** Promises 15 to 23: lines. */
public final class LinesTest {
    private static final Check CHECK = new Check();

    public static void main(String[] args) {
        promise15();
        promise16();
        promise17and18();
        promise19();
        dueMeasures("a tree", tree(), 7, 2, 2, 6, true, true, 7L, 3);
        dueMeasures("a line used twice", shared(), 6, 2, 2, 5, false, true, 7L, 3);
        dueMeasures("a variable resolved twice", irregular(), 8, 2, 3, 7, false, false, 9L, 3);
        dueMeasures("a row", stair(5), 11, 2, 5, 10, true, true, 11L, 2);
        dueMeasures("a row at the other side", otherStair(), 9, 2, 4, 8, true, true, 9L, 2);
        dueMeasures("irregular at the other side", otherIrregular(), 8, 2, 3, 7, false, false, 9L, 3);
        promise20();
        promise22();
        promise23();
        promise23inPlace();
        CHECK.end("LinesTest");
    }

    private static Proofweigh tree() {
        Proofweigh x = Check.formula(2, 4, 5, 7, 8);
        x.line(0);
        x.line(1);
        x.resolve(0, 1, 0);
        x.line(2);
        x.line(3);
        x.resolve(3, 4, 0);
        x.resolve(2, 5, 1);
        return x;
    }

    private static Proofweigh shared() {
        Proofweigh x = Check.formula(2, 1, 5, 8);
        Check.putAll(x);
        x.resolve(0, 1, 0);
        x.resolve(0, 2, 0);
        x.resolve(3, 4, 1);
        return x;
    }

    private static Proofweigh irregular() {
        Proofweigh x = Check.formula(2, 4, 5, 7, 8);
        x.line(0);
        x.line(1);
        x.resolve(0, 1, 0);
        x.line(2);
        x.resolve(2, 3, 1);
        x.line(3);
        x.resolve(1, 5, 1);
        x.resolve(4, 6, 0);
        return x;
    }

    /** The proof of a stair, step by step. */
    private static Proofweigh stair(int steps) {
        Proofweigh x = new Proofweigh();
        x.stair(steps);
        Check.putAll(x);
        int last = 0;
        for (int step = 0; step < steps; step++) {
            last = x.resolve(last, step + 1, step);
        }
        return x;
    }

    /** The proof of a stair from above: what is resolved is always the other line. */
    private static Proofweigh otherStair() {
        Proofweigh x = new Proofweigh();
        x.stair(4);
        Check.putAll(x);
        int last = 4;
        for (int step = 3; step >= 0; step--) {
            last = x.resolve(step, last, step);
        }
        return x;
    }

    /** The irregular proof with each variable denied. */
    private static Proofweigh otherIrregular() {
        Proofweigh x = Check.formula(2, 8, 7, 5, 4);
        x.line(0);
        x.line(1);
        x.resolve(1, 0, 0);
        x.line(2);
        x.resolve(3, 2, 1);
        x.line(3);
        x.resolve(5, 1, 1);
        x.resolve(6, 4, 0);
        return x;
    }

    /** Proofs that need one more, if a resolvent comes only in place of its first, or of its other line. */
    private static void promise23inPlace() {
        Proofweigh x = Check.formula(3, 12, 17, 20, 18, 16);
        Check.putAll(x);
        resolveAll(x, new int[][] {{4, 3, 2}, {0, 3, 2}, {5, 1, 0}, {6, 7, 1}, {8, 2, 2}, {6, 5, 1}, {10, 9, 0}});
        CHECK.due("in place of the other line", 3, x::space);
        Proofweigh y = Check.formula(3, 7, 11, 20, 22, 12);
        Check.putAll(y);
        resolveAll(y, new int[][] {{0, 2, 0}, {0, 1, 0}, {3, 2, 0}, {7, 5, 1}, {4, 8, 2}, {9, 6, 1}, {10, 8, 2}});
        CHECK.due("in place of the first line", 3, y::space);
    }

    private static void resolveAll(Proofweigh x, int[][] steps) {
        for (int[] step : steps) {
            x.resolve(step[0], step[1], step[2]);
        }
    }

    private static void promise15() {
        Proofweigh x = Check.formula(2, 4, 8);
        CHECK.due("line(1)", 0, () -> x.line(1));
        CHECK.due("line(1) again", 1, () -> x.line(1));
        CHECK.due("line(0)", 2, () -> x.line(0));
        CHECK.due("line(2)", Check.INDEX, () -> x.line(2));
        CHECK.due("line(-1)", Check.INDEX, () -> x.line(-1));
        CHECK.due("lineAt(1)", 8, () -> x.lineAt(1));
        for (int line = 3; line < 40; line++) {
            int number = line;
            CHECK.due("line(0)", number, () -> x.line(0));
        }
        CHECK.due("line(0) when full", Check.STATE, () -> x.line(0));
        CHECK.due("line(2) when full", Check.INDEX, () -> x.line(2));
        CHECK.due("no more lines", Check.INDEX, () -> x.lineAt(40));
    }

    private static void promise16() {
        Proofweigh x = Check.formula(3, 1 + 3, 2 + 3, 2 + 6, 2 + 9, 0);
        Check.putAll(x);
        CHECK.due("resolve(0, 1, 0)", 5, () -> x.resolve(0, 1, 0));
        CHECK.due("its clause", 3, () -> x.lineAt(5));
        CHECK.due("resolve(0, 3, 0)", 6, () -> x.resolve(0, 3, 0));
        CHECK.due("its clause", 3 + 9, () -> x.lineAt(6));
        CHECK.due("both ways", Check.UNSUPPORTED, () -> x.resolve(0, 2, 0));
        CHECK.due("the wrong way round", Check.UNSUPPORTED, () -> x.resolve(1, 0, 0));
        CHECK.due("not in the first one", Check.UNSUPPORTED, () -> x.resolve(3, 2, 1));
        CHECK.due("not in the other one", Check.UNSUPPORTED, () -> x.resolve(0, 3, 1));
        CHECK.due("with itself", Check.UNSUPPORTED, () -> x.resolve(0, 0, 0));
        CHECK.due("no such line", Check.INDEX, () -> x.resolve(7, 1, 0));
        CHECK.due("no such other line", Check.INDEX, () -> x.resolve(0, 7, 0));
        CHECK.due("no such line before no such variable", Check.INDEX, () -> x.resolve(0, -1, 9));
        CHECK.due("no such variable", Check.ARGUMENT, () -> x.resolve(0, 1, 3));
        CHECK.due("a variable below 0", Check.ARGUMENT, () -> x.resolve(0, 1, -1));
        CHECK.due("no such variable before no resolvent", Check.ARGUMENT, () -> x.resolve(1, 0, 6));
        for (int line = 7; line < 40; line++) {
            x.line(4);
        }
        CHECK.due("when full", Check.STATE, () -> x.resolve(0, 1, 0));
        CHECK.due("no resolvent, when full", Check.UNSUPPORTED, () -> x.resolve(1, 0, 0));
    }

    private static void promise17and18() {
        Proofweigh x = tree();
        CHECK.due("lineAt(5)", 6, () -> x.lineAt(5));
        CHECK.due("lineAt(6)", 0, () -> x.lineAt(6));
        CHECK.due("lineAt(7)", Check.INDEX, () -> x.lineAt(7));
        CHECK.due("lineAt(-1)", Check.INDEX, () -> x.lineAt(-1));
        CHECK.due("cut(7)", Check.INDEX, () -> x.cut(7));
        CHECK.due("cut(-1)", Check.INDEX, () -> x.cut(-1));
        CHECK.due("the end is still there", 6, () -> x.proof('e'));
        CHECK.due("cut(3)", 3, () -> x.cut(3));
        CHECK.due("lineAt(2)", 3, () -> x.lineAt(2));
        CHECK.due("lineAt(3) after cut", Check.INDEX, () -> x.lineAt(3));
        CHECK.due("no end after cut", Check.ELEMENT, () -> x.proof('e'));
        CHECK.due("line after cut", 3, () -> x.line(0));
        CHECK.due("cut(0)", 0, () -> x.cut(0));
        CHECK.due("cut(0) of none", Check.INDEX, () -> x.cut(0));
    }

    private static void promise19() {
        Proofweigh x = tree();
        x.cut(6);
        x.line(0);
        x.line(1);
        CHECK.due("no end", Check.ELEMENT, () -> x.proof('s'));
        CHECK.due("no such thing before no end", Check.ARGUMENT, () -> x.proof('S'));
        x.resolve(2, 5, 1);
        CHECK.due("the size without what is not needed", 7, () -> x.proof('s'));
        CHECK.due("the end behind it", 8, () -> x.proof('e'));
        x.resolve(2, 5, 1);
        CHECK.due("the first end", 8, () -> x.proof('e'));
        CHECK.due("no such thing", Check.ARGUMENT, () -> x.proof((char) 0));
        Proofweigh y = Check.formula(3, 13, 1, 2);
        Check.putAll(y);
        y.resolve(1, 2, 0);
        CHECK.due("the width of what is needed", 1, () -> y.proof('w'));
        CHECK.due("the depth", 1, () -> y.proof('d'));
        CHECK.due("the size", 3, () -> y.proof('s'));
        Proofweigh z = Check.formula(3, 13, 0);
        Check.putAll(z);
        dueMeasures("the empty clause", z, 1, 0, 0, 1, true, true, 1L, 1);
    }

    private static void dueMeasures(String name, Proofweigh x, int size, int width, int depth, int end,
            boolean isTree, boolean isRegular, long unfolded, int space) {
        CHECK.due(name + ": size", size, () -> x.proof('s'));
        CHECK.due(name + ": width", width, () -> x.proof('w'));
        CHECK.due(name + ": depth", depth, () -> x.proof('d'));
        CHECK.due(name + ": end", end, () -> x.proof('e'));
        CHECK.due(name + ": isTree", isTree, x::isTree);
        CHECK.due(name + ": isRegular", isRegular, x::isRegular);
        CHECK.due(name + ": unfolded", unfolded, x::unfolded);
        CHECK.due(name + ": space", space, x::space);
        CHECK.due(name + ": isTrue", true, x::isTrue);
    }

    private static void promise20() {
        Proofweigh x = Check.formula(2, 1, 2, 5);
        CHECK.due("isTree of nothing", Check.ELEMENT, x::isTree);
        CHECK.due("isRegular of nothing", Check.ELEMENT, x::isRegular);
        Check.putAll(x);
        x.resolve(0, 2, 0);
        x.resolve(0, 1, 0);
        CHECK.due("a use that is not needed", true, x::isTree);
        CHECK.due("regular", true, x::isRegular);
    }

    private static void promise22() {
        Proofweigh x = new Proofweigh();
        CHECK.due("unfolded of nothing", Check.ELEMENT, x::unfolded);
        // Five variables in a ring, each of which gives the next one by two cases of a sixth one.
        x.add(1);
        int[] powers = {1, 3, 9, 27, 81, 243};
        for (int step = 0; step < 5; step++) {
            int from = 2 * powers[step];
            int to = powers[(step + 1) % 5];
            x.add(from + to + 243);
            x.add(from + to + 486);
        }
        x.add(2 * 81);
        Check.putAll(x);
        int last = 0;
        for (int step = 0; step < 9; step++) {
            int clause = 1 + 2 * (step % 5);
            int one = x.resolve(last, clause, step % 5);
            int two = x.resolve(last, clause + 1, step % 5);
            last = x.resolve(one, two, 5);
        }
        int before = last;
        CHECK.due("no end yet", Check.ELEMENT, x::unfolded);
        CHECK.due("the end", 39, () -> x.resolve(before, 11, 4));
        // Each step doubles the tree, and adds 5.
        CHECK.due("unfolded", 3069L, x::unfolded);
        CHECK.due("its size", 40, () -> x.proof('s'));
        CHECK.due("its depth", 19, () -> x.proof('d'));
        CHECK.due("its width", 3, () -> x.proof('w'));
        CHECK.due("it is no tree", false, x::isTree);
        CHECK.due("it is not regular", false, x::isRegular);
        CHECK.due("it needs all lines", 1.0f, x::neededShare);
        CHECK.due("full", Check.STATE, () -> x.resolve(before, 11, 4));
    }

    private static void promise23() {
        Proofweigh x = stair(6);
        CHECK.due("the size", 13, () -> x.proof('s'));
        CHECK.due("space of 13 lines", Check.UNSUPPORTED, x::space);
        Proofweigh y = stair(5);
        y.cut(10);
        CHECK.due("space without end", Check.ELEMENT, y::space);
        y.line(0);
        y.line(0);
        y.resolve(9, 5, 4);
        CHECK.due("lines that are not needed take no space", 2, y::space);
        Proofweigh t = Check.formula(5, 1, 2 + 3, 6 + 9, 18 + 27, 54 + 81, 2 + 162);
        Check.putAll(t);
        int last = 0;
        for (int variable = 0; variable < 4; variable++) {
            last = t.resolve(last, variable + 1, variable);
        }
        t.resolve(last, t.resolve(0, 5, 0), 4);
        CHECK.due("the size", 12, () -> t.proof('s'));
        CHECK.due("space of 12 lines", 3, t::space);
        Proofweigh w = stair(5);
        w.cut(10);
        w.add(5);
        w.line(6);
        w.resolve(0, 10, 0);
        w.add(6);
        w.line(7);
        w.resolve(11, 12, 1);
        CHECK.due("another end", 5, () -> w.proof('s'));
        Proofweigh v = Check.formula(3, 1, 2 + 3, 2 + 6 + 9, 6 + 18, 2 + 6 + 18);
        Check.putAll(v);
        v.resolve(0, 1, 0);
        v.resolve(2, 3, 2);
        v.resolve(2, 4, 2);
        v.resolve(5, 6, 1);
        v.resolve(5, 7, 1);
        CHECK.due("x0 denied twice", 2, () -> v.lineAt(9));
        v.resolve(0, 8, 0);
        CHECK.due("the size", 8, () -> v.proof('s'));
        CHECK.due("the space", 3, v::space);
        Proofweigh z = Check.formula(3, 13, 14, 16, 17, 22, 23, 25, 26);
        CHECK.due("the first half", 0, () -> z.line(0));
        z.line(1);
        z.resolve(0, 1, 0);
        z.line(2);
        z.line(3);
        z.resolve(3, 4, 0);
        z.resolve(2, 5, 1);
        CHECK.due("x2", 9, () -> z.lineAt(6));
        z.add(18);
        z.line(8);
        z.resolve(6, 7, 2);
        CHECK.due("a tree of three floors at one side", 3, z::space);
    }
}
