import java.util.NoSuchElementException;

/**
 * A weighhouse of proofs: formulas of clauses, proofs by resolving, least trees and widths, games,
 * planes, polynomials modulo a prime, what lies between two sides, lemmas by units, and quantors.
 *
 * <p>A clause is a code in base 3 with a digit for each variable: 0 not in it, 1 in it, 2 denied.
 * A set of variables, and values of all variables, are masks with a bit for each variable. What
 * holds of all values is a mask of 64 bits, one for each of the values.
 */
public final class Proofweigh {
    private static final int MOST_VARIABLES = 6;
    private static final int MOST_CLAUSES = 32;
    private static final int MOST_LINES = 40;
    private static final int MOST_SPACED = 12;
    private static final int MOST_PLANES = 80;
    private static final int MOST_TIMES = 9;
    private static final int LEAST_DIVISOR = 2;
    private static final int MOST_DIVISOR = 99;
    private static final int MOST_LEMMAS = 20;
    private static final int MOST_CODES = 729;
    private static final int MOST_SETS = 64;
    private static final int[] PRIMES = {2, 3, 5, 7};
    private static final int GREATEST_PRIME = 7;
    // In place of a least measure that has not been looked for yet.
    private static final int UNKNOWN = -1;

    private static final int FIRST_RING = 3;
    private static final char BY_SOME = 'e';
    private static final char BY_ALL = 'a';

    private final Formula formula;
    private final Proof proof;
    private final Keeper keeper;
    private final Closure closure;
    private final Questions questions;
    private final Planes planes;
    private final Polynomials polynomials;
    private final Units units;
    // The set of the variables that are held by all values.
    private int heldByAll;

    /** Creates a weighhouse with 6 variables, an empty formula and an empty proof. */
    public Proofweigh() {
        Codes codes = new Codes();
        formula = new Formula(codes);
        proof = new Proof(codes);
        keeper = new Keeper();
        closure = new Closure(codes);
        questions = new Questions(codes);
        planes = new Planes(codes);
        polynomials = new Polynomials(codes);
        units = new Units(codes);
        heldByAll = 0;
    }

    // ---- formulas

    /** Sets how many variables there are, and returns how many there were; all begins anew. */
    public int variables(int many) throws IllegalArgumentException {
        requireRange(many, 1, MOST_VARIABLES);
        int before = formula.variables;
        beginAnew();
        formula.begin(many);
        return before;
    }

    /** Adds a clause to the formula, and returns its number. */
    public int add(int clause) throws IllegalArgumentException, IllegalStateException {
        requireCode(clause);
        if (formula.count >= MOST_CLAUSES) {
            throw new IllegalStateException("the formula is full");
        }
        forgetMeasures();
        return formula.append(clause);
    }

    /** Takes all clauses away, and returns how many there were; the quantors stay. */
    public int clear() {
        int before = formula.count;
        wipeProofs();
        formula.begin(formula.variables);
        return before;
    }

    /** Returns a clause of the formula. */
    public int clause(int clause) throws IndexOutOfBoundsException {
        requireClause(clause);
        return formula.codeOf(clause);
    }

    /** Returns how many clauses there are. */
    public int clauses() {
        return formula.count;
    }

    /** Makes the formula of holes, and returns how many clauses it has. */
    public int holes(int pigeons, int holes) throws IllegalArgumentException {
        requireRange(pigeons, 1, MOST_VARIABLES);
        requireRange(holes, 1, MOST_VARIABLES);
        requireRange(pigeons * holes, 1, MOST_VARIABLES);
        beginAnew();
        formula.buildHoles(pigeons, holes);
        return formula.count;
    }

    /** Makes the formula of parities on a ring, and returns how many clauses it has. */
    public int ring(int vertices) throws IllegalArgumentException {
        requireRange(vertices, FIRST_RING, MOST_VARIABLES);
        beginAnew();
        formula.buildRing(vertices);
        return formula.count;
    }

    /** Makes the formula of a stair, and returns how many clauses it has. */
    public int stair(int steps) throws IllegalArgumentException {
        requireRange(steps, 1, MOST_VARIABLES);
        beginAnew();
        formula.buildStair(steps);
        return formula.count;
    }

    /** Makes a formula by chance, and returns its last clause. */
    public int chance(int variables, int clauses, int seed) throws IllegalArgumentException {
        requireRange(variables, 1, MOST_VARIABLES);
        requireRange(clauses, 1, MOST_CLAUSES);
        beginAnew();
        formula.buildChance(variables, clauses, seed);
        return formula.codeOf(formula.count - 1);
    }

    /** Lifts the formula, and returns how many clauses it has. */
    public int lift() throws UnsupportedOperationException {
        if (2 * formula.variables > MOST_VARIABLES || formula.liftedCount() > MOST_CLAUSES) {
            throw new UnsupportedOperationException("the lifted formula is too large");
        }
        beginAnew();
        formula.liftAll();
        return formula.count;
    }

    /** Returns the first values that keep all clauses. */
    public int model() throws NoSuchElementException {
        if (formula.kept == 0L) {
            throw new NoSuchElementException("no values keep all clauses");
        }
        return Long.numberOfTrailingZeros(formula.kept);
    }

    /** Returns how many values keep all clauses. */
    public int models() {
        return Long.bitCount(formula.kept);
    }

    /** Returns the lowest clause that values make false. */
    public int broken(int values) throws IllegalArgumentException, NoSuchElementException {
        requireRange(values, 0, formula.valuesInAll() - 1);
        int lowest = formula.lowestFalse(values);
        if (lowest < 0) {
            throw new NoSuchElementException("no clause is false");
        }
        return lowest;
    }

    // ---- lines

    /** Puts a clause of the formula behind the lines, and returns the number of the line. */
    public int line(int clause) throws IndexOutOfBoundsException, IllegalStateException {
        requireClause(clause);
        requireRoomForLine();
        return proof.putClause(clause, formula.codeOf(clause));
    }

    /** Puts a resolvent behind the lines, and returns the number of the line. */
    public int resolve(int line, int other, int variable)
            throws IndexOutOfBoundsException, IllegalArgumentException, UnsupportedOperationException,
                    IllegalStateException {
        requireLine(line);
        requireLine(other);
        requireVariable(variable);
        int resolvent = proof.resolventOf(line, other, variable);
        if (resolvent < 0) {
            throw new UnsupportedOperationException("the lines have no resolvent by this variable");
        }
        requireRoomForLine();
        return proof.putResolvent(line, other, variable, resolvent);
    }

    /** Takes lines away, from one on, and returns how many are left. */
    public int cut(int line) throws IndexOutOfBoundsException {
        requireLine(line);
        proof.shorten(line);
        return proof.count;
    }

    /** Returns the clause of a line. */
    public int lineAt(int line) throws IndexOutOfBoundsException {
        requireLine(line);
        return proof.codeAt(line);
    }

    /** Returns the size 's', the width 'w', the depth 'd' or the end 'e' of the proof. */
    public int proof(char what) throws IllegalArgumentException, NoSuchElementException {
        if (what != 's' && what != 'w' && what != 'd' && what != 'e') {
            throw new IllegalArgumentException("there is no such thing");
        }
        int end = requireEnd();
        int size = proof.markNeeded(end);
        if (what == 's') {
            return size;
        }
        if (what == 'w') {
            return proof.greatestWidth(end);
        }
        return what == 'd' ? proof.depthOf(end) : end;
    }

    /** Returns whether the proof is a tree. */
    public boolean isTree() throws NoSuchElementException {
        int end = requireEnd();
        proof.markNeeded(end);
        return proof.usesEachOnce(end);
    }

    /** Returns whether the proof is regular. */
    public boolean isRegular() throws NoSuchElementException {
        int end = requireEnd();
        proof.markNeeded(end);
        return proof.resolvesEachOnce(end);
    }

    /** Returns how many lines the unfolded proof has. */
    public long unfolded() throws NoSuchElementException {
        return proof.unfoldedSize(requireEnd());
    }

    /** Returns the space of the proof. */
    public int space() throws NoSuchElementException, UnsupportedOperationException {
        int end = requireEnd();
        int size = proof.markNeeded(end);
        if (size > MOST_SPACED) {
            throw new UnsupportedOperationException("the proof is too large");
        }
        return keeper.leastKept(proof, end);
    }

    // ---- trees, widths, games

    /** Returns the least size of a tree. */
    public int treeSize() throws NoSuchElementException {
        requireNoModel();
        return questions.leastTree(formula, Questions.BY_SIZE);
    }

    /** Returns the least depth of a tree. */
    public int treeDepth() throws NoSuchElementException {
        requireNoModel();
        return questions.leastTree(formula, Questions.BY_DEPTH);
    }

    /** Returns the least weight of a tree. */
    public int treeWeight() throws NoSuchElementException {
        requireNoModel();
        return questions.leastTree(formula, Questions.BY_WEIGHT);
    }

    /** Returns the lowest variable that a tree of the least size asks, with some answers. */
    public int ask(int answers) throws IllegalArgumentException, NoSuchElementException {
        requireCode(answers);
        requireNoModel();
        int variable = questions.firstAsked(formula, answers);
        if (variable < 0) {
            throw new NoSuchElementException("a clause is false");
        }
        return variable;
    }

    /** Returns the width of the formula. */
    public int width() throws NoSuchElementException {
        requireNoModel();
        return closure.leastWidth(formula);
    }

    /** Returns how many clauses come by resolvents of a width of at most some. */
    public int saturated(int width) throws IllegalArgumentException {
        requireRange(width, 0, MOST_VARIABLES);
        return closure.saturate(formula, width);
    }

    /** Returns the least pebbles by which the first side wins. */
    public int pebbles() throws NoSuchElementException {
        requireNoModel();
        return questions.leastPebbles(formula);
    }

    // ---- planes

    /** Adds the plane of a clause of the formula, and returns its number. */
    public int plane(int clause) throws IndexOutOfBoundsException, IllegalStateException {
        requireClause(clause);
        requireRoomForPlane();
        return planes.putClause(formula.codeOf(clause));
    }

    /** Adds the plane of a variable, at least 0, or denied, at least -1, and returns its number. */
    public int bound(int variable, boolean isDenied) throws IllegalArgumentException, IllegalStateException {
        requireVariable(variable);
        requireRoomForPlane();
        return planes.putBound(variable, isDenied);
    }

    /** Adds the sum of two planes, each some times, and returns its number. */
    public int sum(int plane, int times, int other, int otherTimes)
            throws IndexOutOfBoundsException, IllegalArgumentException, UnsupportedOperationException,
                    IllegalStateException {
        requirePlane(plane);
        requirePlane(other);
        requireRange(times, 1, MOST_TIMES);
        requireRange(otherTimes, 1, MOST_TIMES);
        planes.trySum(plane, times, other, otherTimes);
        if (!planes.isTrialInRange()) {
            throw new UnsupportedOperationException("a number would be out of range");
        }
        requireRoomForPlane();
        return planes.putTrial();
    }

    /** Adds a plane divided by a number, and returns its number. */
    public int divide(int plane, int by)
            throws IndexOutOfBoundsException, IllegalArgumentException, UnsupportedOperationException,
                    IllegalStateException {
        requirePlane(plane);
        requireRange(by, LEAST_DIVISOR, MOST_DIVISOR);
        if (!planes.tryQuotient(plane, by)) {
            throw new UnsupportedOperationException("a coefficient is no multiple");
        }
        requireRoomForPlane();
        return planes.putTrial();
    }

    /** Returns a coefficient of a plane, or its bound, for -1. */
    public int planeAt(int plane, int variable) throws IndexOutOfBoundsException, IllegalArgumentException {
        requirePlane(plane);
        requireRange(variable, -1, formula.variables - 1);
        return planes.numberAt(plane, variable < 0 ? Planes.BOUND : variable);
    }

    /** Returns whether a plane refutes. */
    public boolean refutes(int plane) throws IndexOutOfBoundsException {
        requirePlane(plane);
        return planes.isContrary(plane);
    }

    /** Moves the proof into planes, and returns how many planes there are. */
    public int toPlanes() throws NoSuchElementException, IllegalStateException {
        int end = requireEnd();
        proof.markNeeded(end);
        if (planes.neededFor(proof, end) > MOST_PLANES) {
            throw new IllegalStateException("there would be too many planes");
        }
        planes.move(proof, end);
        return planes.count;
    }

    /** Returns how many planes there are. */
    public int planes() {
        return planes.count;
    }

    // ---- polynomials, between, lemmas, quantors

    /** Returns a number of the polynomial of a clause. */
    public int term(int clause, int prime, int set) throws IndexOutOfBoundsException, IllegalArgumentException {
        requireClause(clause);
        requirePrime(prime);
        requireRange(set, 0, formula.valuesInAll() - 1);
        return polynomials.numberOf(formula.codeOf(clause), prime, set);
    }

    /** Returns the static degree. */
    public int staticDegree(int prime) throws IllegalArgumentException, NoSuchElementException {
        requirePrime(prime);
        requireNoModel();
        return polynomials.leastStatic(formula, prime);
    }

    /** Returns the calculus degree. */
    public int degree(int prime) throws IllegalArgumentException, NoSuchElementException {
        requirePrime(prime);
        requireNoModel();
        return polynomials.leastCalculus(formula, prime);
    }

    /** Tells the side of a clause, and returns the one before. */
    public int side(int clause, int side) throws IndexOutOfBoundsException, IllegalArgumentException {
        requireClause(clause);
        requireRange(side, 0, 1);
        return formula.moveTo(clause, side);
    }

    /** Returns what the end of the proof tells of all values, a bit for each. */
    public long between() throws NoSuchElementException {
        return proof.tellAt(formula, requireEnd());
    }

    /** Returns whether a clause follows by units. */
    public boolean follows(int clause) throws IllegalArgumentException {
        requireCode(clause);
        return units.isForced(formula, clause, units.count);
    }

    /** Adds a lemma, and returns how many there are. */
    public int lemma(int clause)
            throws IllegalArgumentException, UnsupportedOperationException, IllegalStateException {
        requireCode(clause);
        if (!units.isForced(formula, clause, units.count)) {
            throw new UnsupportedOperationException("it does not follow by units");
        }
        if (units.count >= MOST_LEMMAS) {
            throw new IllegalStateException("there are enough lemmas");
        }
        units.put(clause);
        return units.count;
    }

    /** Tells how a variable is held, and returns how it was before. */
    public char quantor(int variable, char kind) throws IllegalArgumentException {
        requireVariable(variable);
        if (kind != BY_SOME && kind != BY_ALL) {
            throw new IllegalArgumentException("there is no such kind");
        }
        char before = isHeldByAll(variable) ? BY_ALL : BY_SOME;
        int bit = 1 << variable;
        heldByAll = kind == BY_ALL ? heldByAll | bit : heldByAll & ~bit;
        return before;
    }

    /** Returns whether the formula holds with its quantors. */
    public boolean holds() {
        return holdingFor(0) != 0L;
    }

    /** Returns the value of a variable by a strategy, for the values of lower ones. */
    public boolean strategy(int variable, int values) throws IllegalArgumentException, NoSuchElementException {
        requireVariable(variable);
        if (isHeldByAll(variable)) {
            throw new IllegalArgumentException("the variable is held by all values");
        }
        requireRange(values, 0, formula.valuesInAll() - 1);
        int bit = 1 << variable;
        int lower = values & (bit - 1);
        long holding = holdingFor(variable + 1);
        if ((holding >>> lower & 1L) != 0L) {
            return false;
        }
        if ((holding >>> (lower + bit) & 1L) == 0L) {
            throw new NoSuchElementException("it does not hold for these values");
        }
        return true;
    }

    /** Returns the share of the lines that are needed for the end. */
    public float neededShare() throws NoSuchElementException {
        int end = requireEnd();
        float needed = (float) proof.markNeeded(end);
        float all = (float) proof.count;
        return all > 0f ? needed / all : 0f;
    }

    /** Returns the mean width of the clauses. */
    public double meanWidth() throws ArithmeticException {
        double many = (double) formula.count;
        if (many <= 0.0) {
            throw new ArithmeticException("there are no clauses");
        }
        return (double) formula.widthsInAll() / many;
    }

    /** Checks that all that is kept agrees with the formula, and the least measures with each other. */
    public boolean isTrue() {
        return doLinesFollow() && doesEndLieBetween() && planes.hold(formula) && doLemmasFollow()
                && (formula.kept != 0L || doMeasuresAgree() && doDegreesAgree());
    }

    // ---- what the face rests on

    private void beginAnew() {
        wipeProofs();
        heldByAll = 0;
    }

    private void wipeProofs() {
        forgetMeasures();
        proof.shorten(0);
        planes.wipe();
        units.wipe();
    }

    /** Least widths, pebbles and degrees are dear: they are kept until the formula changes. */
    private void forgetMeasures() {
        closure.forget();
        questions.forget();
        polynomials.forget();
    }

    private boolean isHeldByAll(int variable) {
        return (heldByAll >> variable & 1) != 0;
    }

    /** The mask of the values of the variables below a level for which the rest holds. */
    private long holdingFor(int level) {
        long holding = formula.kept;
        for (int variable = formula.variables - 1; variable >= level; variable--) {
            int half = 1 << variable;
            long denied = holding & ((1L << half) - 1L);
            long held = holding >>> half;
            holding = isHeldByAll(variable) ? denied & held : denied | held;
        }
        return holding;
    }

    private boolean doLinesFollow() {
        for (int line = 0; line < proof.count; line++) {
            if ((formula.kept & ~formula.truthOf(proof.codeAt(line))) != 0L) {
                return false;
            }
        }
        return true;
    }

    private boolean doesEndLieBetween() {
        int end = proof.endLine();
        if (end < 0) {
            return true;
        }
        long told = proof.tellAt(formula, end);
        return (formula.keptOnSide(0) & ~told) == 0L && (formula.keptOnSide(1) & told) == 0L;
    }

    private boolean doLemmasFollow() {
        for (int lemma = 0; lemma < units.count; lemma++) {
            // A lemma would follow from itself: it has to follow from those before it.
            if (!units.isForced(formula, units.lemmaAt(lemma), lemma)) {
                return false;
            }
        }
        return true;
    }

    private boolean doMeasuresAgree() {
        int width = closure.leastWidth(formula);
        int fewer = questions.leastPebbles(formula) - 1;
        return fewer <= width && width <= Math.max(fewer, formula.greatestWidth())
                && questions.leastTree(formula, Questions.BY_DEPTH) <= formula.variables;
    }

    private boolean doDegreesAgree() {
        for (int prime : PRIMES) {
            if (polynomials.leastCalculus(formula, prime) > polynomials.leastStatic(formula, prime)) {
                return false;
            }
        }
        return true;
    }

    private void requireRange(int number, int least, int most) {
        if (number < least || number > most) {
            throw new IllegalArgumentException("a number is out of range");
        }
    }

    private void requireCode(int code) {
        requireRange(code, 0, formula.codesInAll() - 1);
    }

    private void requireVariable(int variable) {
        requireRange(variable, 0, formula.variables - 1);
    }

    private void requirePrime(int prime) {
        if (prime != 2 && prime != 3 && prime != 5 && prime != 7) {
            throw new IllegalArgumentException("there is no such prime");
        }
    }

    private void requireIndex(int index, int many) {
        if (index < 0 || index >= many) {
            throw new IndexOutOfBoundsException("there is no such number");
        }
    }

    private void requireClause(int clause) {
        requireIndex(clause, formula.count);
    }

    private void requireLine(int line) {
        requireIndex(line, proof.count);
    }

    private void requirePlane(int plane) {
        requireIndex(plane, planes.count);
    }

    private void requireRoomForLine() {
        if (proof.count >= MOST_LINES) {
            throw new IllegalStateException("the proof is full");
        }
    }

    private void requireRoomForPlane() {
        if (planes.count >= MOST_PLANES) {
            throw new IllegalStateException("there are enough planes");
        }
    }

    private void requireNoModel() {
        if (formula.kept != 0L) {
            throw new NoSuchElementException("some values keep all clauses");
        }
    }

    private int requireEnd() {
        int end = proof.endLine();
        if (end < 0) {
            throw new NoSuchElementException("no line is the empty clause");
        }
        return end;
    }

    /** A row of ints, each place of which is looked at before it is used: one that is not there holds 0. */
    private static final class Ints {
        private final int[] cells;

        Ints(int length) {
            cells = new int[length > 0 ? length : 0];
        }

        int at(int place) {
            return place >= 0 && place < cells.length ? cells[place] : 0;
        }

        void put(int place, int value) {
            if (place >= 0 && place < cells.length) {
                cells[place] = value;
            }
        }

        void fill(int value) {
            for (int place = 0; place < cells.length; place++) {
                cells[place] = value;
            }
        }
    }

    /** The codes in base 3, of clauses and of answers, taken apart and put together without dividing. */
    private static final class Codes {
        private final Ints powers = new Ints(MOST_VARIABLES + 1);
        private final Ints ones = new Ints(MOST_CODES);
        private final Ints twos = new Ints(MOST_CODES);
        private final Ints widths = new Ints(MOST_CODES);
        private final Ints joined = new Ints(MOST_SETS);

        Codes() {
            int power = 1;
            for (int variable = 0; variable < MOST_VARIABLES; variable++) {
                int bit = 1 << variable;
                powers.put(variable, power);
                for (int code = 0; code < power; code++) {
                    ones.put(code + power, ones.at(code) | bit);
                    twos.put(code + power, twos.at(code));
                    widths.put(code + power, widths.at(code) + 1);
                    ones.put(code + 2 * power, ones.at(code));
                    twos.put(code + 2 * power, twos.at(code) | bit);
                    widths.put(code + 2 * power, widths.at(code) + 1);
                }
                for (int set = 0; set < bit; set++) {
                    joined.put(set + bit, joined.at(set) + power);
                }
                power *= 3;
            }
            powers.put(MOST_VARIABLES, power);
        }

        /** 3 to the power of a variable. */
        int powerOf(int variable) {
            return powers.at(variable);
        }

        /** The set of the variables whose digit is 1. */
        int onesOf(int code) {
            return ones.at(code);
        }

        /** The set of the variables whose digit is 2. */
        int twosOf(int code) {
            return twos.at(code);
        }

        /** The set of the variables whose digit is not 0. */
        int usedBy(int code) {
            return ones.at(code) | twos.at(code);
        }

        int widthOf(int code) {
            return widths.at(code);
        }

        int join(int setOfOnes, int setOfTwos) {
            return joined.at(setOfOnes) + 2 * joined.at(setOfTwos);
        }
    }

    /** The clauses, their sides, and the values that keep all of them. */
    private static final class Formula {
        private static final int MULTIPLIER = 1103515245;
        private static final int INCREMENT = 12345;
        // For each variable the values for which it is true.
        private static final long[] TRUTHS = {
            0xAAAAAAAAAAAAAAAAL, 0xCCCCCCCCCCCCCCCCL, 0xF0F0F0F0F0F0F0F0L,
            0xFF00FF00FF00FF00L, 0xFFFF0000FFFF0000L, 0xFFFFFFFF00000000L
        };

        private final Codes codes;
        private final Ints clauses = new Ints(MOST_CLAUSES);
        private final Ints sides = new Ints(MOST_CLAUSES);
        private final Ints before = new Ints(MOST_CLAUSES);
        private int variables;
        private int count;
        private long kept;

        Formula(Codes codes) {
            this.codes = codes;
            variables = MOST_VARIABLES;
            count = 0;
            kept = -1L;
        }

        void begin(int many) {
            variables = many;
            count = 0;
            kept = allValues();
        }

        int append(int code) {
            int number = count;
            clauses.put(number, code);
            sides.put(number, 0);
            kept &= truthOf(code);
            count++;
            return number;
        }

        int codeOf(int clause) {
            return clauses.at(clause);
        }

        int codesInAll() {
            return codes.powerOf(variables);
        }

        int valuesInAll() {
            return 1 << variables;
        }

        long allValues() {
            // A shift by 64 would shift by 0.
            return variables >= MOST_VARIABLES ? -1L : (1L << (1 << variables)) - 1L;
        }

        /** The values for which a variable is true. */
        long truthOfVariable(int variable) {
            return variable >= 0 && variable < TRUTHS.length ? TRUTHS[variable] & allValues() : 0L;
        }

        /** The values for which a clause is true. */
        long truthOf(int code) {
            int ones = codes.onesOf(code);
            int twos = codes.twosOf(code);
            long truth = 0L;
            for (int variable = 0; variable < variables; variable++) {
                long trues = truthOfVariable(variable);
                if ((ones >> variable & 1) != 0) {
                    truth |= trues;
                }
                if ((twos >> variable & 1) != 0) {
                    truth |= allValues() & ~trues;
                }
            }
            return truth;
        }

        int lowestFalse(int values) {
            for (int clause = 0; clause < count; clause++) {
                if ((truthOf(clauses.at(clause)) >>> values & 1L) == 0L) {
                    return clause;
                }
            }
            return -1;
        }

        int widthsInAll() {
            int widths = 0;
            for (int clause = 0; clause < count; clause++) {
                widths += codes.widthOf(clauses.at(clause));
            }
            return widths;
        }

        int greatestWidth() {
            int widest = 0;
            for (int clause = 0; clause < count; clause++) {
                widest = Math.max(widest, codes.widthOf(clauses.at(clause)));
            }
            return widest;
        }

        int sideOf(int clause) {
            return sides.at(clause);
        }

        int moveTo(int clause, int side) {
            int old = sides.at(clause);
            sides.put(clause, side);
            return old;
        }

        /** The set of the variables that are in clauses of a side. */
        int usedOnSide(int side) {
            int used = 0;
            for (int clause = 0; clause < count; clause++) {
                if (sides.at(clause) == side) {
                    used |= codes.usedBy(clauses.at(clause));
                }
            }
            return used;
        }

        /** The values that keep all clauses of a side. */
        long keptOnSide(int side) {
            long values = allValues();
            for (int clause = 0; clause < count; clause++) {
                if (sides.at(clause) == side) {
                    values &= truthOf(clauses.at(clause));
                }
            }
            return values;
        }

        void buildHoles(int pigeons, int holes) {
            begin(pigeons * holes);
            for (int pigeon = 0; pigeon < pigeons; pigeon++) {
                append(codes.join(((1 << holes) - 1) << (holes * pigeon), 0));
            }
            for (int hole = 0; hole < holes; hole++) {
                for (int one = 0; one < pigeons; one++) {
                    for (int other = one + 1; other < pigeons; other++) {
                        append(codes.join(0, 1 << (holes * one + hole) | 1 << (holes * other + hole)));
                    }
                }
            }
        }

        void buildRing(int vertices) {
            begin(vertices);
            for (int vertex = 0; vertex < vertices; vertex++) {
                int neighbour = vertex == 0 ? vertices - 1 : vertex - 1;
                int wanted = vertex == 0 ? 1 : 0;
                barWrong(Math.min(vertex, neighbour), Math.max(vertex, neighbour), wanted);
            }
        }

        private void barWrong(int lower, int higher, int wanted) {
            for (int values = 0; values < 4; values++) {
                int lowerValue = values & 1;
                int higherValue = values >> 1;
                if ((lowerValue ^ higherValue) != wanted) {
                    int denied = lowerValue << lower | higherValue << higher;
                    append(codes.join((1 << lower | 1 << higher) & ~denied, denied));
                }
            }
        }

        void buildStair(int steps) {
            begin(steps);
            append(codes.join(1, 0));
            for (int step = 0; step + 1 < steps; step++) {
                append(codes.join(2 << step, 1 << step));
            }
            append(codes.join(0, 1 << (steps - 1)));
        }

        void buildChance(int manyVariables, int manyClauses, int seed) {
            begin(manyVariables);
            int state = seed;
            for (int clause = 0; clause < manyClauses; clause++) {
                int code = 0;
                for (int variable = 0; variable < manyVariables; variable++) {
                    state = MULTIPLIER * state + INCREMENT;
                    code += (state >>> 16) % 3 * codes.powerOf(variable);
                }
                append(code);
            }
        }

        int liftedCount() {
            int many = 0;
            for (int clause = 0; clause < count; clause++) {
                many += 1 << codes.widthOf(clauses.at(clause));
            }
            return many;
        }

        void liftAll() {
            int oldCount = count;
            int oldVariables = variables;
            for (int clause = 0; clause < oldCount; clause++) {
                before.put(clause, clauses.at(clause));
            }
            begin(2 * oldVariables);
            for (int clause = 0; clause < oldCount; clause++) {
                int code = before.at(clause);
                for (int choice = 0; choice < 1 << codes.widthOf(code); choice++) {
                    append(liftedBy(code, choice, oldVariables));
                }
            }
        }

        /** One clause of a lifted one: the choice has a bit for each variable that is in it. */
        private int liftedBy(int code, int choice, int distance) {
            int ones = codes.onesOf(code);
            int used = codes.usedBy(code);
            int plain = 0;
            int denied = 0;
            int rest = choice;
            for (int variable = 0; variable < distance; variable++) {
                if ((used >> variable & 1) != 0) {
                    int first = 1 << variable;
                    int second = first << distance;
                    boolean isPlain = (ones >> variable & 1) != 0;
                    boolean isFirstDenied = (rest & 1) != 0;
                    boolean isSecondDenied = isFirstDenied == isPlain;
                    denied |= (isFirstDenied ? first : 0) | (isSecondDenied ? second : 0);
                    plain |= (isFirstDenied ? 0 : first) | (isSecondDenied ? 0 : second);
                    rest >>= 1;
                }
            }
            return codes.join(plain, denied);
        }
    }

    /** The lines of a proof, and what is measured on those that are needed for its end. */
    private static final class Proof {
        // In place of the number of a clause: the line is a resolvent.
        private static final int RESOLVED = -1;

        private final Codes codes;
        private final Ints lines = new Ints(MOST_LINES);
        private final Ints sources = new Ints(MOST_LINES);
        private final Ints firsts = new Ints(MOST_LINES);
        private final Ints seconds = new Ints(MOST_LINES);
        private final Ints pivots = new Ints(MOST_LINES);
        private final Ints needed = new Ints(MOST_LINES);
        private final Ints measured = new Ints(MOST_LINES);
        private final long[] told = new long[MOST_LINES];
        private int count;

        Proof(Codes codes) {
            this.codes = codes;
            count = 0;
        }

        int putClause(int clause, int code) {
            int line = count;
            lines.put(line, code);
            sources.put(line, clause);
            count++;
            return line;
        }

        int putResolvent(int first, int second, int variable, int code) {
            int line = putClause(RESOLVED, code);
            firsts.put(line, first);
            seconds.put(line, second);
            pivots.put(line, variable);
            return line;
        }

        /** The resolvent of two lines, or -1 if they have none by this variable. */
        int resolventOf(int line, int other, int variable) {
            int bit = 1 << variable;
            int one = lines.at(line);
            int two = lines.at(other);
            if ((codes.onesOf(one) & bit) == 0 || (codes.twosOf(two) & bit) == 0) {
                return -1;
            }
            int ones = (codes.onesOf(one) | codes.onesOf(two)) & ~bit;
            int twos = (codes.twosOf(one) | codes.twosOf(two)) & ~bit;
            return (ones & twos) != 0 ? -1 : codes.join(ones, twos);
        }

        void shorten(int many) {
            count = many;
        }

        int codeAt(int line) {
            return lines.at(line);
        }

        boolean isResolved(int line) {
            return sources.at(line) == RESOLVED;
        }

        int firstOf(int line) {
            return firsts.at(line);
        }

        int secondOf(int line) {
            return seconds.at(line);
        }

        boolean isNeeded(int line) {
            return needed.at(line) != 0;
        }

        /** The first line that is the empty clause, or -1. */
        int endLine() {
            for (int line = 0; line < count; line++) {
                if (lines.at(line) == 0) {
                    return line;
                }
            }
            return -1;
        }

        /** Marks the lines that are needed for one, and returns how many they are. */
        int markNeeded(int end) {
            needed.fill(0);
            needed.put(end, 1);
            int many = 0;
            for (int line = end; line >= 0; line--) {
                if (isNeeded(line)) {
                    many++;
                    if (isResolved(line)) {
                        needed.put(firsts.at(line), 1);
                        needed.put(seconds.at(line), 1);
                    }
                }
            }
            return many;
        }

        int greatestWidth(int end) {
            int widest = 0;
            for (int line = 0; line <= end; line++) {
                if (isNeeded(line)) {
                    widest = Math.max(widest, codes.widthOf(lines.at(line)));
                }
            }
            return widest;
        }

        int depthOf(int end) {
            for (int line = 0; line <= end; line++) {
                int below = Math.max(measured.at(firsts.at(line)), measured.at(seconds.at(line)));
                measured.put(line, isResolved(line) ? below + 1 : 0);
            }
            return measured.at(end);
        }

        boolean usesEachOnce(int end) {
            measured.fill(0);
            for (int line = 0; line <= end; line++) {
                if (isNeeded(line) && isResolved(line)) {
                    measured.put(firsts.at(line), measured.at(firsts.at(line)) + 1);
                    measured.put(seconds.at(line), measured.at(seconds.at(line)) + 1);
                }
            }
            for (int line = 0; line < end; line++) {
                if (isNeeded(line) && measured.at(line) != 1) {
                    return false;
                }
            }
            return true;
        }

        boolean resolvesEachOnce(int end) {
            measured.fill(0);
            for (int line = 0; line <= end; line++) {
                if (isNeeded(line) && isResolved(line)) {
                    int bit = 1 << pivots.at(line);
                    int below = measured.at(firsts.at(line)) | measured.at(seconds.at(line));
                    if ((below & bit) != 0) {
                        return false;
                    }
                    measured.put(line, below | bit);
                }
            }
            return true;
        }

        private long toldAt(int line) {
            return line >= 0 && line < told.length ? told[line] : 0L;
        }

        private void putTold(int line, long value) {
            if (line >= 0 && line < told.length) {
                told[line] = value;
            }
        }

        long unfoldedSize(int end) {
            for (int line = 0; line <= end; line++) {
                long below = toldAt(firsts.at(line)) + toldAt(seconds.at(line));
                putTold(line, isResolved(line) ? below + 1L : 1L);
            }
            return toldAt(end);
        }

        /** What a line tells of all values, between both sides of the formula. */
        long tellAt(Formula formula, int end) {
            int zeros = formula.usedOnSide(0);
            int ones = formula.usedOnSide(1);
            for (int line = 0; line <= end; line++) {
                if (isResolved(line)) {
                    int pivot = pivots.at(line);
                    putTold(line, tellResolved(line, zeros >> pivot & 1, ones >> pivot & 1, formula));
                } else {
                    putTold(line, formula.sideOf(sources.at(line)) == 0 ? 0L : formula.allValues());
                }
            }
            return toldAt(end);
        }

        private long tellResolved(int line, int isInZero, int isInOne, Formula formula) {
            long first = toldAt(firsts.at(line));
            long second = toldAt(seconds.at(line));
            if (isInOne == 0) {
                return first | second;
            }
            if (isInZero == 0) {
                return first & second;
            }
            long trues = formula.truthOfVariable(pivots.at(line));
            return first & ~trues | second & trues;
        }
    }

    /** The space of a proof: all ways to keep lines are walked through, room by room. */
    private static final class Keeper {
        private static final int MOST_KEPT = 1 << MOST_SPACED;

        private final Ints places = new Ints(MOST_LINES);
        private final Ints madeOf = new Ints(MOST_SPACED);
        private final Ints seen = new Ints(MOST_KEPT);
        private final Ints waiting = new Ints(MOST_KEPT);
        private int size;
        private int found;

        Keeper() {
            size = 0;
            found = 0;
        }

        int leastKept(Proof proof, int end) {
            placeLines(proof, end);
            for (int room = 1; room < size; room++) {
                if (isEnough(room)) {
                    return room;
                }
            }
            return size;
        }

        /** Numbers the needed lines one behind the other: the end is the last one of them. */
        private void placeLines(Proof proof, int end) {
            size = 0;
            for (int line = 0; line <= end; line++) {
                if (proof.isNeeded(line)) {
                    int first = 1 << places.at(proof.firstOf(line));
                    int second = 1 << places.at(proof.secondOf(line));
                    madeOf.put(size, proof.isResolved(line) ? first | second : 0);
                    places.put(line, size);
                    size++;
                }
            }
        }

        private boolean isEnough(int room) {
            int end = 1 << (size - 1);
            seen.fill(0);
            found = 0;
            visit(0);
            for (int next = 0; next < MOST_KEPT && next < found; next++) {
                int kept = waiting.at(next);
                if ((kept & end) != 0) {
                    return true;
                }
                visitBeyond(kept, room);
            }
            return false;
        }

        private void visitBeyond(int kept, int room) {
            boolean isFull = Integer.bitCount(kept) >= room;
            for (int place = 0; place < size; place++) {
                int bit = 1 << place;
                int parts = madeOf.at(place);
                if ((kept & bit) != 0) {
                    visit(kept & ~bit);
                } else if ((kept & parts) == parts) {
                    if (!isFull) {
                        visit(kept | bit);
                    }
                    visitInPlaceOf(kept | bit, parts);
                }
            }
        }

        private void visitInPlaceOf(int kept, int parts) {
            for (int place = 0; place < size; place++) {
                if ((parts >> place & 1) != 0) {
                    visit(kept & ~(1 << place));
                }
            }
        }

        private void visit(int kept) {
            if (seen.at(kept) == 0) {
                seen.put(kept, 1);
                waiting.put(found, kept);
                found++;
            }
        }
    }

    /** All clauses that come by resolvents of a width of at most some. */
    private static final class Closure {
        private final Codes codes;
        private final Ints isHere = new Ints(MOST_CODES);
        // The clauses that have come, each by its two sets of variables.
        private final Ints plain = new Ints(MOST_CODES);
        private final Ints denied = new Ints(MOST_CODES);
        private int count;
        private int knownWidth;

        Closure(Codes codes) {
            this.codes = codes;
            count = 0;
            knownWidth = UNKNOWN;
        }

        void forget() {
            knownWidth = UNKNOWN;
        }

        int leastWidth(Formula formula) {
            if (knownWidth == UNKNOWN) {
                int width = 0;
                saturate(formula, width);
                // All variables together are wide enough for every resolvent.
                while (isHere.at(0) == 0 && width < formula.variables) {
                    width++;
                    saturate(formula, width);
                }
                knownWidth = width;
            }
            return knownWidth;
        }

        int saturate(Formula formula, int width) {
            isHere.fill(0);
            count = 0;
            for (int clause = 0; clause < formula.count; clause++) {
                keep(formula.codeOf(clause), width);
            }
            for (int next = 0; next < MOST_CODES && next < count; next++) {
                resolveWithEarlier(next, width);
            }
            return count;
        }

        private void resolveWithEarlier(int next, int width) {
            int ones = plain.at(next);
            int twos = denied.at(next);
            for (int before = 0; before < next; before++) {
                int otherOnes = plain.at(before);
                int otherTwos = denied.at(before);
                int clash = ones & otherTwos | twos & otherOnes;
                // With more than one such variable another one would be in the resolvent both ways.
                if (clash != 0 && (clash & (clash - 1)) == 0) {
                    keep(codes.join((ones | otherOnes) & ~clash, (twos | otherTwos) & ~clash), width);
                }
            }
        }

        private void keep(int code, int width) {
            if (isHere.at(code) == 0 && codes.widthOf(code) <= width) {
                isHere.put(code, 1);
                plain.put(count, codes.onesOf(code));
                denied.put(count, codes.twosOf(code));
                count++;
            }
        }
    }

    /** Trees of questions and the game of pebbles, over all answers: digits 1 true, 2 false. */
    private static final class Questions {
        private static final int BY_SIZE = 0;
        private static final int BY_DEPTH = 1;
        private static final int BY_WEIGHT = 2;

        private final Codes codes;
        // Whether some clause is false by the answers alone.
        private final Ints isFalse = new Ints(MOST_CODES);
        private final Ints least = new Ints(MOST_CODES);
        private final Ints isLost = new Ints(MOST_CODES);
        private int knownPebbles;

        Questions(Codes codes) {
            this.codes = codes;
            knownPebbles = UNKNOWN;
        }

        void forget() {
            knownPebbles = UNKNOWN;
        }

        private void markFalse(Formula formula) {
            isFalse.fill(0);
            for (int clause = 0; clause < formula.count; clause++) {
                int code = formula.codeOf(clause);
                isFalse.put(codes.join(codes.twosOf(code), codes.onesOf(code)), 1);
            }
            for (int answers = 0; answers < formula.codesInAll(); answers++) {
                if (isSomeFewerMarked(isFalse, answers, formula.variables)) {
                    isFalse.put(answers, 1);
                }
            }
        }

        /** Whether the answers without one of them are marked. */
        private boolean isSomeFewerMarked(Ints marks, int answers, int variables) {
            int trues = codes.onesOf(answers);
            int used = codes.usedBy(answers);
            for (int variable = 0; variable < variables; variable++) {
                if ((used >> variable & 1) != 0) {
                    int power = codes.powerOf(variable);
                    int digit = (trues >> variable & 1) != 0 ? power : 2 * power;
                    if (marks.at(answers - digit) != 0) {
                        return true;
                    }
                }
            }
            return false;
        }

        /** The least measure of a tree, and in the row those of the trees below all answers. */
        int leastTree(Formula formula, int measure) {
            markFalse(formula);
            // More answers are a greater code, so what lies below some answers is there before them.
            for (int answers = formula.codesInAll() - 1; answers >= 0; answers--) {
                if (isFalse.at(answers) != 0) {
                    least.put(answers, measure == BY_SIZE ? 1 : 0);
                } else {
                    int variable = bestAsked(formula.variables, answers, measure);
                    least.put(answers, measureOf(answers, variable, measure));
                }
            }
            return least.at(0);
        }

        /** The lowest variable that a least tree asks, or -1 if a clause is false. */
        int firstAsked(Formula formula, int answers) {
            leastTree(formula, BY_SIZE);
            return isFalse.at(answers) != 0 ? -1 : bestAsked(formula.variables, answers, BY_SIZE);
        }

        private int bestAsked(int variables, int answers, int measure) {
            int used = codes.usedBy(answers);
            int best = -1;
            for (int variable = 0; variable < variables; variable++) {
                if ((used >> variable & 1) == 0
                        && (best < 0
                                || measureOf(answers, variable, measure) < measureOf(answers, best, measure))) {
                    best = variable;
                }
            }
            return best;
        }

        /** The measure of the least tree that asks a variable first. */
        private int measureOf(int answers, int variable, int measure) {
            int power = codes.powerOf(variable);
            int one = least.at(answers + power);
            int two = least.at(answers + 2 * power);
            if (measure == BY_SIZE) {
                return one + two + 1;
            }
            int greater = Math.max(one, two);
            return measure == BY_DEPTH || one == two ? greater + 1 : greater;
        }

        int leastPebbles(Formula formula) {
            if (knownPebbles == UNKNOWN) {
                markFalse(formula);
                for (int answers = 0; answers < formula.codesInAll(); answers++) {
                    isLost.put(answers, isFalse.at(answers));
                }
                int many = 0;
                // With a pebble on each variable some clause is false.
                while (isLost.at(0) == 0 && many < formula.variables) {
                    many++;
                    // What is lost with fewer pebbles is lost with more, so the marks stay.
                    spreadLoss(formula, many);
                }
                knownPebbles = many;
            }
            return knownPebbles;
        }

        private void spreadLoss(Formula formula, int pebbles) {
            boolean isGrowing = true;
            for (int round = 0; round < MOST_CODES && isGrowing; round++) {
                isGrowing = false;
                for (int answers = formula.codesInAll() - 1; answers >= 0; answers--) {
                    if (isLost.at(answers) == 0 && isLosing(formula.variables, answers, pebbles)) {
                        isLost.put(answers, 1);
                        isGrowing = true;
                    }
                }
            }
        }

        /** Whether the second side loses here: by a pebble that is put, or by one that is taken away. */
        private boolean isLosing(int variables, int answers, int pebbles) {
            int free = pebbles - codes.widthOf(answers);
            if (free < 0) {
                return false;
            }
            return free > 0 && isSomeMoreLost(variables, answers)
                    || isSomeFewerMarked(isLost, answers, variables);
        }

        private boolean isSomeMoreLost(int variables, int answers) {
            int used = codes.usedBy(answers);
            for (int variable = 0; variable < variables; variable++) {
                int power = codes.powerOf(variable);
                if ((used >> variable & 1) == 0
                        && isLost.at(answers + power) != 0
                        && isLost.at(answers + 2 * power) != 0) {
                    return true;
                }
            }
            return false;
        }
    }

    /** The planes: rows of coefficients, each with its bound behind them. */
    private static final class Planes {
        private static final int BOUND = MOST_VARIABLES;
        private static final int NUMBERS = MOST_VARIABLES + 1;
        private static final int GREATEST = 9999;

        private final Codes codes;
        private final Ints numbers = new Ints(MOST_PLANES * NUMBERS);
        private final Ints trial = new Ints(NUMBERS);
        private final Ints planeOfLine = new Ints(MOST_LINES);
        private int count;

        Planes(Codes codes) {
            this.codes = codes;
            count = 0;
        }

        void wipe() {
            count = 0;
        }

        int numberAt(int plane, int place) {
            return numbers.at(plane * NUMBERS + place);
        }

        int putTrial() {
            int plane = count;
            for (int place = 0; place < NUMBERS; place++) {
                numbers.put(plane * NUMBERS + place, trial.at(place));
            }
            count++;
            return plane;
        }

        int putClause(int code) {
            int ones = codes.onesOf(code);
            int twos = codes.twosOf(code);
            for (int variable = 0; variable < MOST_VARIABLES; variable++) {
                trial.put(variable, (ones >> variable & 1) - (twos >> variable & 1));
            }
            trial.put(BOUND, 1 - Integer.bitCount(twos));
            return putTrial();
        }

        int putBound(int variable, boolean isDenied) {
            trial.fill(0);
            trial.put(variable, isDenied ? -1 : 1);
            trial.put(BOUND, isDenied ? -1 : 0);
            return putTrial();
        }

        void trySum(int plane, int times, int other, int otherTimes) {
            for (int place = 0; place < NUMBERS; place++) {
                trial.put(place, times * numberAt(plane, place) + otherTimes * numberAt(other, place));
            }
        }

        boolean isTrialInRange() {
            for (int place = 0; place < NUMBERS; place++) {
                if (trial.at(place) < -GREATEST || trial.at(place) > GREATEST) {
                    return false;
                }
            }
            return true;
        }

        /** Tries to divide a plane, and returns whether all coefficients are multiples. */
        boolean tryQuotient(int plane, int by) {
            if (by < LEAST_DIVISOR) {
                return false;
            }
            for (int variable = 0; variable < MOST_VARIABLES; variable++) {
                int coefficient = numberAt(plane, variable);
                if (coefficient % by != 0) {
                    return false;
                }
                trial.put(variable, coefficient / by);
            }
            trial.put(BOUND, -Math.floorDiv(-numberAt(plane, BOUND), by));
            return true;
        }

        boolean isContrary(int plane) {
            for (int variable = 0; variable < MOST_VARIABLES; variable++) {
                if (numberAt(plane, variable) != 0) {
                    return false;
                }
            }
            return numberAt(plane, BOUND) > 0;
        }

        /** How many planes the needed lines of a proof take. */
        int neededFor(Proof proof, int end) {
            int many = 0;
            for (int line = 0; line <= end; line++) {
                if (proof.isNeeded(line)) {
                    many += proof.isResolved(line) ? planesOfResolvent(proof, line) : 1;
                }
            }
            return many;
        }

        /** A sum, a quotient, and two for each odd coefficient: that of a variable in just one of both. */
        private int planesOfResolvent(Proof proof, int line) {
            int first = codes.usedBy(proof.codeAt(proof.firstOf(line)));
            int second = codes.usedBy(proof.codeAt(proof.secondOf(line)));
            return 2 + 2 * Integer.bitCount(first ^ second);
        }

        void move(Proof proof, int end) {
            count = 0;
            for (int line = 0; line <= end; line++) {
                if (proof.isNeeded(line)) {
                    planeOfLine.put(line, proof.isResolved(line)
                            ? putResolvent(proof, line)
                            : putClause(proof.codeAt(line)));
                }
            }
        }

        private int putResolvent(Proof proof, int line) {
            int first = planeOfLine.at(proof.firstOf(line));
            int second = planeOfLine.at(proof.secondOf(line));
            trySum(first, 1, second, 1);
            int last = putTrial();
            for (int variable = 0; variable < MOST_VARIABLES; variable++) {
                int coefficient = numberAt(last, variable);
                if (coefficient % 2 != 0) {
                    int bound = putBound(variable, coefficient < 0);
                    trySum(last, 1, bound, 1);
                    last = putTrial();
                }
            }
            tryQuotient(last, 2);
            return putTrial();
        }

        /** Whether all planes hold for all values that keep the formula. */
        boolean hold(Formula formula) {
            for (int plane = 0; plane < count; plane++) {
                for (int values = 0; values < formula.valuesInAll(); values++) {
                    if ((formula.kept >>> values & 1L) != 0L
                            && sumFor(plane, values) < numberAt(plane, BOUND)) {
                        return false;
                    }
                }
            }
            return true;
        }

        private int sumFor(int plane, int values) {
            int sum = 0;
            for (int variable = 0; variable < MOST_VARIABLES; variable++) {
                sum += (values >> variable & 1) * numberAt(plane, variable);
            }
            return sum;
        }
    }

    /**
     * Polynomials modulo a prime: a space of them, held by rows that lead with unlike sets.
     *
     * <p>A set leads if it has the most variables, so the rows that lead with few variables span all
     * polynomials of a low degree in the space, and 1 is in it just if a row leads with the empty set.
     */
    private static final class Polynomials {
        private final Codes codes;
        // All sets of variables, those of fewer variables first.
        private final Ints order = new Ints(MOST_SETS);
        private final Ints rows = new Ints(MOST_SETS * MOST_SETS);
        private final Ints isThere = new Ints(MOST_SETS);
        private final Ints isSpread = new Ints(MOST_SETS);
        private final Ints next = new Ints(MOST_SETS);
        // The degrees that have been looked for, by the prime.
        private final Ints knownStatic = new Ints(GREATEST_PRIME + 1);
        private final Ints knownCalculus = new Ints(GREATEST_PRIME + 1);
        private int prime;
        private int sets;

        Polynomials(Codes codes) {
            this.codes = codes;
            prime = 2;
            sets = MOST_SETS;
            knownStatic.fill(UNKNOWN);
            knownCalculus.fill(UNKNOWN);
            int place = 0;
            for (int degree = 0; degree <= MOST_VARIABLES; degree++) {
                for (int set = 0; set < MOST_SETS; set++) {
                    if (Integer.bitCount(set) == degree) {
                        order.put(place, set);
                        place++;
                    }
                }
            }
        }

        void forget() {
            knownStatic.fill(UNKNOWN);
            knownCalculus.fill(UNKNOWN);
        }

        int numberOf(int code, int modulus, int set) {
            prime = modulus;
            return numberWith(codes.twosOf(code), codes.onesOf(code), set);
        }

        /** The number at a set of the product of some variables and of 1 less each of others. */
        private int numberWith(int factors, int lessened, int set) {
            if ((set & factors) != factors || (set & ~(factors | lessened)) != 0) {
                return 0;
            }
            return Integer.bitCount(set & lessened) % 2 == 0 ? 1 : prime - 1;
        }

        private void beginSpace(Formula formula, int modulus) {
            prime = modulus;
            sets = formula.valuesInAll();
            isThere.fill(0);
            isSpread.fill(0);
        }

        private boolean hasOne() {
            return isThere.at(0) != 0;
        }

        int leastStatic(Formula formula, int modulus) {
            if (knownStatic.at(modulus) == UNKNOWN) {
                beginSpace(formula, modulus);
                int degree = 0;
                takeProducts(formula, degree);
                while (!hasOne() && degree < formula.variables) {
                    degree++;
                    // The products of lower degrees are in the space already.
                    takeProducts(formula, degree);
                }
                knownStatic.put(modulus, degree);
            }
            return knownStatic.at(modulus);
        }

        private void takeProducts(Formula formula, int degree) {
            for (int clause = 0; clause < formula.count && !hasOne(); clause++) {
                int code = formula.codeOf(clause);
                int more = degree - codes.widthOf(code);
                // A product by a variable of its own is 0 or the polynomial itself.
                for (int set = 0; set < sets; set++) {
                    if (Integer.bitCount(set) == more && (set & codes.usedBy(code)) == 0) {
                        takeProduct(code, set);
                    }
                }
            }
        }

        private void takeProduct(int code, int factors) {
            for (int set = 0; set < sets; set++) {
                next.put(set, numberWith(codes.twosOf(code) | factors, codes.onesOf(code), set));
            }
            take();
        }

        int leastCalculus(Formula formula, int modulus) {
            if (knownCalculus.at(modulus) == UNKNOWN) {
                beginSpace(formula, modulus);
                int degree = 0;
                takeClauses(formula, degree);
                while (!hasOne() && degree < formula.variables) {
                    degree++;
                    takeClauses(formula, degree);
                    spreadBelow(degree, formula.variables);
                }
                knownCalculus.put(modulus, degree);
            }
            return knownCalculus.at(modulus);
        }

        private void takeClauses(Formula formula, int width) {
            for (int clause = 0; clause < formula.count; clause++) {
                if (codes.widthOf(formula.codeOf(clause)) == width) {
                    takeProduct(formula.codeOf(clause), 0);
                }
            }
        }

        /** Takes the products of all rows of a degree below one and of all variables, again and again. */
        private void spreadBelow(int degree, int variables) {
            boolean isGrowing = true;
            for (int round = 0; round <= MOST_SETS && isGrowing; round++) {
                isGrowing = false;
                for (int lead = 0; lead < sets && !hasOne(); lead++) {
                    if (isThere.at(lead) != 0 && isSpread.at(lead) == 0 && Integer.bitCount(lead) < degree) {
                        isSpread.put(lead, 1);
                        isGrowing = true;
                        for (int variable = 0; variable < variables; variable++) {
                            takeRowTimes(lead, 1 << variable);
                        }
                    }
                }
            }
        }

        private void takeRowTimes(int lead, int bit) {
            for (int set = 0; set < sets; set++) {
                int without = set & ~bit;
                int number = rowAt(lead, set) + rowAt(lead, without);
                next.put(set, set == without ? 0 : remainder(number));
            }
            take();
        }

        private int rowAt(int lead, int set) {
            return rows.at(lead * MOST_SETS + set);
        }

        private int remainder(int number) {
            return prime > 0 ? number % prime : 0;
        }

        /** Takes the next polynomial into the space: what is left of it becomes a row, if it is not 0. */
        private void take() {
            for (int place = MOST_SETS - 1; place >= 0; place--) {
                int lead = order.at(place);
                int number = lead < sets ? next.at(lead) : 0;
                if (number != 0) {
                    if (isThere.at(lead) == 0) {
                        makeRow(lead, inverse(number));
                        return;
                    }
                    lessen(lead, prime - number);
                }
            }
        }

        private void lessen(int lead, int times) {
            for (int set = 0; set < sets; set++) {
                next.put(set, remainder(next.at(set) + times * rows.at(lead * MOST_SETS + set)));
            }
        }

        /** A row has 1 at the set with which it leads. */
        private void makeRow(int lead, int times) {
            isThere.put(lead, 1);
            for (int set = 0; set < MOST_SETS; set++) {
                rows.put(lead * MOST_SETS + set, set < sets ? remainder(next.at(set) * times) : 0);
            }
        }

        private int inverse(int number) {
            for (int other = 1; other < prime; other++) {
                if (remainder(number * other) == 1) {
                    return other;
                }
            }
            return 0;
        }
    }

    /** The lemmas, and what follows by units. */
    private static final class Units {
        private final Codes codes;
        private final Ints lemmas = new Ints(MOST_LEMMAS);
        private int count;
        private int trues;
        private int falses;

        Units(Codes codes) {
            this.codes = codes;
            count = 0;
            trues = 0;
            falses = 0;
        }

        void wipe() {
            count = 0;
        }

        void put(int code) {
            lemmas.put(count, code);
            count++;
        }

        int lemmaAt(int lemma) {
            return lemmas.at(lemma);
        }

        /** Whether a clause follows by units from the formula and the first ones of the lemmas. */
        boolean isForced(Formula formula, int code, int manyLemmas) {
            trues = codes.twosOf(code);
            falses = codes.onesOf(code);
            // Each round but the last one tells a variable at least.
            for (int round = 0; round <= MOST_VARIABLES; round++) {
                for (int clause = 0; clause < formula.count; clause++) {
                    if (isFalseOrTold(formula.codeOf(clause))) {
                        return true;
                    }
                }
                for (int lemma = 0; lemma < manyLemmas; lemma++) {
                    if (isFalseOrTold(lemmas.at(lemma))) {
                        return true;
                    }
                }
            }
            return false;
        }

        /** Whether a clause is false; if it has just one variable without a value, it tells it. */
        private boolean isFalseOrTold(int code) {
            int ones = codes.onesOf(code);
            int twos = codes.twosOf(code);
            if ((ones & trues) != 0 || (twos & falses) != 0) {
                return false;
            }
            int open = (ones | twos) & ~(trues | falses);
            if (Integer.bitCount(open) == 1) {
                trues |= open & ones;
                falses |= open & twos;
            }
            return open == 0;
        }
    }
}
