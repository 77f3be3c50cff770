/** Objects in the states that the boundaries are looked at from: empty, mixed, and full. */
public final class States {
    /** All four clauses of x0 and x1: they contradict each other, but no unit tells anything. */
    private static final int[] SQUARE = {1 + 3, 1 + 6, 2 + 3, 2 + 6};

    private States() {}

    /** Six variables, and nothing else. */
    static Proofweigh empty() {
        return new Proofweigh();
    }

    static Proofweigh one() {
        return Check.formula(1);
    }

    static Proofweigh square() {
        return Check.formula(2, SQUARE);
    }

    /** x0, and x0 denied, in one variable. */
    static Proofweigh contrary() {
        return Check.formula(1, 1, 2);
    }

    /** x0, and x0 denied, and the three lines of both and of the empty clause. */
    static Proofweigh ended() {
        Proofweigh x = contrary();
        Check.putAll(x);
        x.resolve(0, 1, 0);
        return x;
    }

    /** The square and x0 or x2 in three variables, and something of all that an object can hold. */
    static Proofweigh mixed() {
        Proofweigh x = Check.formula(3, SQUARE);
        x.add(1 + 9);
        Check.putAll(x);
        x.resolve(0, 1, 1);
        x.resolve(2, 3, 1);
        x.resolve(5, 6, 0);
        x.line(4);
        x.plane(1);
        x.bound(2, true);
        x.sum(0, 2, 1, 3);
        x.lemma(1);
        x.lemma(1 + 9);
        x.side(1, 1);
        x.side(4, 1);
        x.quantor(0, 'a');
        x.quantor(2, 'a');
        return x;
    }

    /** Some clauses of six variables that can be kept, and something of all else. */
    static Proofweigh wide() {
        Proofweigh x = Check.formula(6, 728, 1, 2 + 3, 6 + 243, 364);
        x.line(1);
        x.line(2);
        x.resolve(0, 1, 0);
        x.line(0);
        x.plane(0);
        x.bound(5, false);
        x.sum(0, 9, 1, 9);
        x.lemma(3);
        x.side(0, 1);
        x.quantor(5, 'a');
        return x;
    }

    /** x0 as often as there can be clauses, the last one of the side 1. */
    static Proofweigh fullOfClauses(int variables) {
        Proofweigh x = Check.formula(variables);
        for (int clause = 0; clause < 32; clause++) {
            x.add(1);
        }
        x.side(31, 1);
        return x;
    }

    /** The lines x0, then again and again that x0 is denied or x1 is there, until there is but some room. */
    static Proofweigh linesLeft(int room) {
        Proofweigh x = Check.formula(2, 1, 2 + 3, 6);
        x.line(0);
        for (int line = 1; line < 40 - room; line++) {
            x.line(1);
        }
        return x;
    }

    static Proofweigh fullOfLines() {
        return linesLeft(0);
    }

    /** The plane of x0, then again and again that x0 is at least 0, until there is but some room. */
    static Proofweigh planesLeft(int room) {
        Proofweigh x = Check.formula(2, 1);
        x.plane(0);
        for (int plane = 1; plane < 80 - room; plane++) {
            x.bound(0, false);
        }
        return x;
    }

    static Proofweigh fullOfPlanes() {
        return planesLeft(0);
    }

    /** The square, and its first clause as a lemma, until there is but some room. */
    static Proofweigh lemmasLeft(int room) {
        Proofweigh x = square();
        for (int lemma = 0; lemma < 20 - room; lemma++) {
            x.lemma(4);
        }
        return x;
    }

    static Proofweigh fullOfLemmas() {
        return lemmasLeft(0);
    }

    /** Two variables, and as many clauses, lines, planes and lemmas as there can be. */
    static Proofweigh full() {
        Proofweigh x = square();
        for (int clause = 4; clause < 32; clause++) {
            x.add(4);
        }
        for (int clause = 0; clause < 4; clause++) {
            x.line(clause);
        }
        x.resolve(0, 1, 1);
        x.resolve(2, 3, 1);
        x.resolve(4, 5, 0);
        for (int line = 7; line < 40; line++) {
            x.line((line - 7) % 32);
        }
        for (int plane = 0; plane < 80; plane++) {
            x.bound(plane % 2, plane % 3 == 0);
        }
        for (int lemma = 0; lemma < 20; lemma++) {
            x.lemma(4);
        }
        x.side(1, 1);
        x.side(31, 1);
        x.quantor(1, 'a');
        return x;
    }
}
