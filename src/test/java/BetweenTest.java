/** Promises 42 to 51: between, lemmas, quantors, shares, and the check of all. */
public final class BetweenTest {
    private static final Check CHECK = new Check();

    public static void main(String[] args) {
        promise42();
        promise43();
        promise43sides();
        promise43parts();
        promise44();
        promise45();
        promise46();
        promise47();
        promise48();
        promise49();
        promise50();
        promise51();
        CHECK.end("BetweenTest");
    }

    private static void promise42() {
        Proofweigh x = Check.formula(2, 4, 8);
        CHECK.due("side(1, 1)", 0, () -> x.side(1, 1));
        CHECK.due("side(1, 1) again", 1, () -> x.side(1, 1));
        CHECK.due("side(1, 0)", 1, () -> x.side(1, 0));
        CHECK.due("side(0, 0)", 0, () -> x.side(0, 0));
        CHECK.due("side(0, 2)", Check.ARGUMENT, () -> x.side(0, 2));
        CHECK.due("side(0, -1)", Check.ARGUMENT, () -> x.side(0, -1));
        CHECK.due("side(2, 0)", Check.INDEX, () -> x.side(2, 0));
        CHECK.due("side(-1, 2)", Check.INDEX, () -> x.side(-1, 2));
        x.side(0, 1);
        x.add(5);
        CHECK.due("a new one is on the side 0", 0, () -> x.side(2, 1));
        CHECK.due("the others stay", 1, () -> x.side(0, 1));
    }

    private static Proofweigh tree() {
        Proofweigh x = Check.formula(2, 4, 5, 7, 8);
        Check.putAll(x);
        x.resolve(0, 1, 0);
        x.resolve(2, 3, 0);
        x.resolve(4, 5, 1);
        return x;
    }

    private static void promise43() {
        Proofweigh x = tree();
        CHECK.due("all on the side 0", 0L, x::between);
        x.side(0, 1);
        x.side(1, 1);
        CHECK.due("what gives x1 is on the side 1", 3L, x::between);
        x.side(2, 1);
        // x1 is told by the side 1; of the rest the first line is on it, too.
        CHECK.due("all but one on the side 1", 7L, x::between);
        x.side(3, 1);
        CHECK.due("all on the side 1", 15L, x::between);
        x.cut(6);
        CHECK.due("no end", Check.ELEMENT, x::between);
        Proofweigh y = Check.formula(6, 364, 0);
        CHECK.due("nothing", Check.ELEMENT, y::between);
        Check.putAll(y);
        CHECK.due("a clause of the side 0", 0L, y::between);
        y.side(1, 1);
        CHECK.due("a clause of the side 1, of six variables", -1L, y::between);
    }

    private static void promise43sides() {
        // x0 is of the side 0, x1 is shared, x2 is of the side 1.
        Proofweigh x = Check.formula(3, 1, 2 + 3, 6 + 9, 18);
        x.side(2, 1);
        x.side(3, 1);
        Check.putAll(x);
        x.resolve(0, 1, 0);
        x.resolve(2, 3, 2);
        x.resolve(4, 5, 1);
        // Where x1 is true: what the side 0 gives.
        CHECK.due("x1 lies between", 4L + 8L + 64L + 128L, x::between);
        CHECK.due("isTrue", true, x::isTrue);
        // With x0 on both sides it is shared, and the first line tells where it is false.
        x.add(2);
        x.side(4, 1);
        CHECK.due("x0 is shared", 4L + 8L + 64L + 128L, x::between);
        x.side(1, 1);
        CHECK.due("x0 between a unit and the rest", 2L + 8L + 32L + 128L, x::between);
        CHECK.due("isTrue", true, x::isTrue);
        for (int clause = 0; clause < 5; clause++) {
            x.side(clause, 1 - (clause & 1));
        }
        CHECK.due("isTrue with other sides", true, x::isTrue);
        // A clause that is there twice, on both sides: the line knows which one it is of.
        Proofweigh y = Check.formula(1, 1, 1, 2);
        y.side(1, 1);
        y.line(0);
        y.line(1);
        y.line(2);
        y.resolve(0, 2, 0);
        CHECK.due("the one of the side 0", 0L, y::between);
        y.cut(3);
        y.resolve(1, 2, 0);
        CHECK.due("the one of the side 1", 1L, y::between);
    }

    /** x0 or x1, x0 denied or x2, not x1, not x2: x0 is in the first two alone. */
    private static void promise43parts() {
        Proofweigh x = Check.formula(3, 1 + 3, 2 + 9, 6, 18);
        Check.putAll(x);
        x.resolve(0, 2, 1);
        x.resolve(1, 3, 2);
        x.resolve(4, 5, 0);
        x.side(2, 1);
        x.side(3, 1);
        CHECK.due("x0 is of the side 0: x1 or x2", 4L + 8L + 16L + 32L + 64L + 128L, x::between);
        for (int clause = 0; clause < 4; clause++) {
            x.side(clause, clause < 2 ? 1 : 0);
        }
        CHECK.due("x0 is of the side 1: neither x1 nor x2", 1L + 2L, x::between);
        x.add(1);
        CHECK.due("x0 is shared: not x1, then not x2", 1L + 2L + 8L + 16L, x::between);
        CHECK.due("isTrue", true, x::isTrue);
    }

    private static void promise44() {
        Proofweigh x = Check.formula(4, 1 + 3, 6 + 9, 18 + 27, 2 + 54);
        CHECK.due("a clause of the formula", true, () -> x.follows(4));
        CHECK.due("a wider one", true, () -> x.follows(4 + 9));
        CHECK.due("a row of three units", true, () -> x.follows(1 + 27));
        CHECK.due("x0 does not follow", false, () -> x.follows(1));
        CHECK.due("not both of x0 and x1, by a row of three", true, () -> x.follows(8));
        CHECK.due("x1 does not follow: the row ends at a clause that is true", false, () -> x.follows(3));
        CHECK.due("the empty clause does not", false, () -> x.follows(0));
        CHECK.due("no such clause", Check.ARGUMENT, () -> x.follows(81));
        CHECK.due("a clause below 0", Check.ARGUMENT, () -> x.follows(-1));
        Proofweigh y = Check.formula(2, 4, 5, 7, 8);
        CHECK.due("no unit at first", false, () -> y.follows(0));
        CHECK.due("x0 with units", true, () -> y.follows(1));
        Proofweigh z = Check.formula(3, 9, 6 + 18, 3);
        CHECK.due("units against each other", true, () -> z.follows(0));
        CHECK.due("then everything follows", true, () -> z.follows(26));
        Proofweigh w = Check.formula(2, 0);
        CHECK.due("with the empty clause everything follows", true, () -> w.follows(8));
        CHECK.due("from nothing nothing follows", false, () -> Check.formula(2).follows(8));
        Proofweigh v = Check.formula(6, 2 * 243 + 81, 2 * 81 + 27, 2 * 27 + 9, 2 * 9 + 3, 2 * 3 + 1);
        CHECK.due("a row against the order", true, () -> v.follows(2 * 243 + 1));
        CHECK.due("and not back", false, () -> v.follows(243 + 2));
    }

    private static void promise45() {
        Proofweigh x = Check.formula(2, 4, 5, 7, 8);
        CHECK.due("lemma(0)", Check.UNSUPPORTED, () -> x.lemma(0));
        CHECK.due("lemma(1)", 1, () -> x.lemma(1));
        CHECK.due("now the empty clause follows", true, () -> x.follows(0));
        CHECK.due("lemma(0) now", 2, () -> x.lemma(0));
        CHECK.due("lemma(9)", Check.ARGUMENT, () -> x.lemma(9));
        CHECK.due("lemma(-1)", Check.ARGUMENT, () -> x.lemma(-1));
        CHECK.due("the formula stays", 4, x::clauses);
        CHECK.due("isTrue", true, x::isTrue);
        Proofweigh y = Check.formula(2, 4);
        for (int lemma = 1; lemma <= 20; lemma++) {
            CHECK.due("lemma " + lemma, lemma, () -> y.lemma(4));
        }
        CHECK.due("lemma 21", Check.STATE, () -> y.lemma(4));
        CHECK.due("what does not follow, when full", Check.UNSUPPORTED, () -> y.lemma(1));
        CHECK.due("no such clause, when full", Check.ARGUMENT, () -> y.lemma(9));
        CHECK.due("isTrue", true, y::isTrue);
        y.clear();
        CHECK.due("without lemmas", Check.UNSUPPORTED, () -> y.lemma(4));
    }

    private static void promise46() {
        Proofweigh x = Check.formula(2);
        CHECK.due("quantor(1, 'a')", 'e', () -> x.quantor(1, 'a'));
        CHECK.due("quantor(1, 'x')", Check.ARGUMENT, () -> x.quantor(1, 'x'));
        CHECK.due("quantor(1, 'a') again", 'a', () -> x.quantor(1, 'a'));
        CHECK.due("quantor(0, 'e')", 'e', () -> x.quantor(0, 'e'));
        CHECK.due("quantor(1, 'e')", 'a', () -> x.quantor(1, 'e'));
        CHECK.due("quantor(1, 'e') again", 'e', () -> x.quantor(1, 'e'));
        CHECK.due("quantor(2, 'a')", Check.ARGUMENT, () -> x.quantor(2, 'a'));
        CHECK.due("quantor(-1, 'a')", Check.ARGUMENT, () -> x.quantor(-1, 'a'));
        CHECK.due("quantor(0, 'E')", Check.ARGUMENT, () -> x.quantor(0, 'E'));
        CHECK.due("quantor(0, 65381)", Check.ARGUMENT, () -> x.quantor(0, (char) (65280 + 'e')));
    }

    private static void promise47() {
        // x0 and x1 are alike.
        Proofweigh x = Check.formula(2, 1 + 6, 2 + 3);
        CHECK.due("some x0, some x1", true, x::holds);
        x.quantor(0, 'a');
        CHECK.due("all x0, some x1", true, x::holds);
        x.quantor(1, 'a');
        CHECK.due("all x0, all x1", false, x::holds);
        x.quantor(0, 'e');
        CHECK.due("some x0, all x1", false, x::holds);
        Proofweigh y = new Proofweigh();
        CHECK.due("nothing", true, y::holds);
        y.quantor(5, 'a');
        y.add(81);
        CHECK.due("all x5 for x4", true, y::holds);
        y.add(81 + 243);
        y.add(81 + 486);
        CHECK.due("x4 whatever x5 is", true, y::holds);
        y.add(243);
        CHECK.due("not x5 for all", false, y::holds);
        Proofweigh z = Check.formula(1, 0);
        CHECK.due("the empty clause", false, z::holds);
    }

    private static void promise48() {
        // x0 for all, x1 other than x0, x2 if x1.
        Proofweigh x = Check.formula(3, 4, 8, 15);
        x.quantor(0, 'a');
        CHECK.due("strategy(1, 0)", true, () -> x.strategy(1, 0));
        CHECK.due("strategy(1, 1)", false, () -> x.strategy(1, 1));
        CHECK.due("higher ones are of no meaning", true, () -> x.strategy(1, 6));
        CHECK.due("strategy(2, 2)", true, () -> x.strategy(2, 2));
        CHECK.due("strategy(2, 1): false, if both hold", false, () -> x.strategy(2, 5));
        CHECK.due("strategy(2, 3)", Check.ELEMENT, () -> x.strategy(2, 3));
        CHECK.due("held by all", Check.ARGUMENT, () -> x.strategy(0, 0));
        CHECK.due("no such variable", Check.ARGUMENT, () -> x.strategy(3, 0));
        CHECK.due("a variable below 0", Check.ARGUMENT, () -> x.strategy(-1, 0));
        CHECK.due("no such values", Check.ARGUMENT, () -> x.strategy(1, 8));
        CHECK.due("values below 0", Check.ARGUMENT, () -> x.strategy(1, -1));
        CHECK.due("no such values where it does not hold", Check.ARGUMENT, () -> x.strategy(2, 11));
        // What comes behind the variable counts by its quantors.
        Proofweigh y = Check.formula(2, 1 + 3, 1 + 6);
        CHECK.due("x0 may be false", Check.ELEMENT, () -> Check.formula(2, 1 + 3, 1 + 6, 2).strategy(0, 0));
        y.quantor(1, 'a');
        CHECK.due("x0 true for all x1", true, () -> y.strategy(0, 0));
        Proofweigh z = new Proofweigh();
        CHECK.due("nothing", false, () -> z.strategy(5, 63));
        z.add(243);
        CHECK.due("the highest one", true, () -> z.strategy(5, 31));
        z.add(486);
        CHECK.due("the highest one both ways", Check.ELEMENT, () -> z.strategy(5, 63));
    }

    private static void promise49() {
        Proofweigh x = tree();
        CHECK.due("all of 7", 1.0f, x::neededShare);
        x.line(0);
        CHECK.due("7 of 8", 0.875f, x::neededShare);
        x.line(0);
        CHECK.due("7 of 9", 7.0f / 9.0f, x::neededShare);
        x.cut(6);
        CHECK.due("no end", Check.ELEMENT, x::neededShare);
        CHECK.due("nothing", Check.ELEMENT, () -> new Proofweigh().neededShare());
    }

    private static void promise50() {
        Proofweigh x = new Proofweigh();
        CHECK.due("nothing", Check.ARITHMETIC, x::meanWidth);
        x.add(728);
        CHECK.due("one of 6", 6.0, x::meanWidth);
        x.add(1);
        x.add(0);
        CHECK.due("7 by 3", 7.0 / 3.0, x::meanWidth);
        x.clear();
        CHECK.due("cleared", Check.ARITHMETIC, x::meanWidth);
        x.holes(3, 2);
        CHECK.due("holes(3, 2)", 2.0, x::meanWidth);
    }

    private static void promise51() {
        Proofweigh x = new Proofweigh();
        CHECK.due("nothing", true, x::isTrue);
        int[][] sizes = {{1, 1}, {2, 1}, {3, 1}, {3, 2}, {2, 2}, {2, 3}, {6, 1}, {1, 6}};
        for (int[] size : sizes) {
            x.holes(size[0], size[1]);
            CHECK.due("holes", true, x::isTrue);
        }
        for (int many = 3; many <= 6; many++) {
            x.ring(many);
            CHECK.due("ring", true, x::isTrue);
        }
        x.ring(3);
        x.lift();
        CHECK.due("a ring lifted", true, x::isTrue);
        for (int seed = 0; seed < 100; seed++) {
            x.chance(1 + seed % 6, 1 + seed % 32, seed);
            CHECK.due("chance " + seed, true, x::isTrue);
        }
        Proofweigh y = tree();
        y.side(2, 1);
        y.toPlanes();
        y.lemma(1);
        y.lemma(0);
        y.quantor(1, 'a');
        CHECK.due("with everything", true, y::isTrue);
        CHECK.due("it changes nothing: end", 6, () -> y.proof('e'));
        CHECK.due("it changes nothing: planes", 10, y::planes);
        CHECK.due("it changes nothing: lemmas", 3, () -> y.lemma(0));
        CHECK.due("it changes nothing: quantors", 'a', () -> y.quantor(1, 'a'));
        CHECK.due("it changes nothing: sides", 1, () -> y.side(2, 1));
    }
}
