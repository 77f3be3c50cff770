import java.util.ArrayList;
import java.util.Arrays;
import java.util.HashMap;
import java.util.HashSet;
import java.util.LinkedHashSet;
import java.util.List;
import java.util.Map;
import java.util.NoSuchElementException;
import java.util.Set;
import java.util.TreeSet;

/**
 * The document once more, written slowly and with the Java library: by digits, recursion and whole
 * searches, so that it shares no trick with the program that it is held against.
 */
public final class PlainWeigher {
    private record Line(int[] digits, int clause, int first, int second, int variable) {}

    private int n = 6;
    private final List<int[]> clauses = new ArrayList<>();
    private final List<Integer> sides = new ArrayList<>();
    private final List<Line> lines = new ArrayList<>();
    private final List<int[]> planes = new ArrayList<>();
    private final List<int[]> lemmas = new ArrayList<>();
    private char[] kinds = "eeeeee".toCharArray();

    // ---- formulas

    public int variables(int many) {
        argument(many >= 1 && many <= 6);
        int before = n;
        anew(many);
        return before;
    }

    public int add(int clause) {
        argument(isCode(clause));
        state(clauses.size() < 32);
        return append(digits(clause));
    }

    public int clear() {
        int before = clauses.size();
        char[] kept = kinds;
        anew(n);
        kinds = kept;
        return before;
    }

    public int clause(int clause) {
        index(clause, clauses.size());
        return code(clauses.get(clause));
    }

    public int clauses() {
        return clauses.size();
    }

    public int holes(int pigeons, int holes) {
        argument(pigeons >= 1 && pigeons <= 6 && holes >= 1 && holes <= 6 && pigeons * holes <= 6);
        anew(pigeons * holes);
        for (int p = 0; p < pigeons; p++) {
            int[] some = new int[n];
            for (int h = 0; h < holes; h++) {
                some[holes * p + h] = 1;
            }
            append(some);
        }
        for (int h = 0; h < holes; h++) {
            for (int p = 0; p < pigeons; p++) {
                for (int q = p + 1; q < pigeons; q++) {
                    int[] notBoth = new int[n];
                    notBoth[holes * p + h] = 2;
                    notBoth[holes * q + h] = 2;
                    append(notBoth);
                }
            }
        }
        return clauses.size();
    }

    public int ring(int vertices) {
        argument(vertices >= 3 && vertices <= 6);
        anew(vertices);
        for (int vertex = 0; vertex < vertices; vertex++) {
            int one = vertex;
            int two = (vertex + vertices - 1) % vertices;
            int lower = Math.min(one, two);
            int higher = Math.max(one, two);
            for (int values = 0; values < 4; values++) {
                int odd = (values % 2 + values / 2) % 2;
                if (odd != (vertex == 0 ? 1 : 0)) {
                    int[] bar = new int[n];
                    bar[lower] = values % 2 == 1 ? 2 : 1;
                    bar[higher] = values / 2 == 1 ? 2 : 1;
                    append(bar);
                }
            }
        }
        return clauses.size();
    }

    public int stair(int steps) {
        argument(steps >= 1 && steps <= 6);
        anew(steps);
        int[] start = new int[n];
        start[0] = 1;
        append(start);
        for (int i = 0; i < steps - 1; i++) {
            int[] step = new int[n];
            step[i] = 2;
            step[i + 1] = 1;
            append(step);
        }
        int[] last = new int[n];
        last[steps - 1] = 2;
        append(last);
        return clauses.size();
    }

    public int chance(int variables, int many, int seed) {
        argument(variables >= 1 && variables <= 6 && many >= 1 && many <= 32);
        anew(variables);
        int z = seed;
        for (int c = 0; c < many; c++) {
            int[] drawn = new int[n];
            for (int v = 0; v < n; v++) {
                z = (int) (1103515245L * z + 12345L);
                drawn[v] = (int) ((z & 0xFFFFFFFFL) / 65536L % 3L);
            }
            append(drawn);
        }
        return code(clauses.get(many - 1));
    }

    public int lift() {
        List<int[]> lifted = new ArrayList<>();
        for (int[] old : clauses) {
            List<Integer> used = usedOf(old);
            for (int choice = 0; choice < Math.pow(2, used.size()); choice++) {
                int[] one = new int[2 * n];
                for (int i = 0; i < used.size(); i++) {
                    int v = used.get(i);
                    boolean bit = (choice >> i) % 2 == 1;
                    if (old[v] == 1) {
                        one[v] = bit ? 2 : 1;
                        one[v + n] = bit ? 2 : 1;
                    } else {
                        one[v] = bit ? 2 : 1;
                        one[v + n] = bit ? 1 : 2;
                    }
                }
                lifted.add(one);
            }
        }
        if (2 * n > 6 || lifted.size() > 32) {
            throw new UnsupportedOperationException();
        }
        anew(2 * n);
        for (int[] one : lifted) {
            append(one);
        }
        return clauses.size();
    }

    public int model() {
        for (int values = 0; values < total(); values++) {
            if (keepsAll(values)) {
                return values;
            }
        }
        throw new NoSuchElementException();
    }

    public int models() {
        int many = 0;
        for (int values = 0; values < total(); values++) {
            many += keepsAll(values) ? 1 : 0;
        }
        return many;
    }

    public int broken(int values) {
        argument(values >= 0 && values < total());
        for (int c = 0; c < clauses.size(); c++) {
            if (!keeps(clauses.get(c), values)) {
                return c;
            }
        }
        throw new NoSuchElementException();
    }

    // ---- lines

    public int line(int clause) {
        index(clause, clauses.size());
        state(lines.size() < 40);
        lines.add(new Line(clauses.get(clause), clause, -1, -1, -1));
        return lines.size() - 1;
    }

    public int resolve(int line, int other, int variable) {
        index(line, lines.size());
        index(other, lines.size());
        argument(variable >= 0 && variable < n);
        int[] both = resolvent(lines.get(line).digits, lines.get(other).digits, variable);
        if (both == null) {
            throw new UnsupportedOperationException();
        }
        state(lines.size() < 40);
        lines.add(new Line(both, -1, line, other, variable));
        return lines.size() - 1;
    }

    public int cut(int line) {
        index(line, lines.size());
        while (lines.size() > line) {
            lines.remove(lines.size() - 1);
        }
        return lines.size();
    }

    public int lineAt(int line) {
        index(line, lines.size());
        return code(lines.get(line).digits);
    }

    public int proof(char what) {
        argument("swde".indexOf(what) >= 0);
        int end = end();
        if (what == 's') {
            return neededFor(end).size();
        }
        if (what == 'w') {
            int widest = 0;
            for (int line : neededFor(end)) {
                widest = Math.max(widest, usedOf(lines.get(line).digits).size());
            }
            return widest;
        }
        return what == 'd' ? depth(end) : end;
    }

    private int depth(int line) {
        Line made = lines.get(line);
        return made.clause >= 0 ? 0 : 1 + Math.max(depth(made.first), depth(made.second));
    }

    public boolean isTree() {
        int end = end();
        Map<Integer, Integer> uses = new HashMap<>();
        for (int line : neededFor(end)) {
            Line made = lines.get(line);
            if (made.clause < 0) {
                uses.merge(made.first, 1, Integer::sum);
                uses.merge(made.second, 1, Integer::sum);
            }
        }
        for (int line : neededFor(end)) {
            if (line != end && uses.get(line) != 1) {
                return false;
            }
        }
        return true;
    }

    public boolean isRegular() {
        return isRegularFrom(end(), new HashSet<>());
    }

    private boolean isRegularFrom(int line, Set<Integer> above) {
        Line made = lines.get(line);
        if (made.clause >= 0) {
            return true;
        }
        if (above.contains(made.variable)) {
            return false;
        }
        Set<Integer> now = new HashSet<>(above);
        now.add(made.variable);
        return isRegularFrom(made.first, now) && isRegularFrom(made.second, now);
    }

    public long unfolded() {
        return unfold(end(), new HashMap<>());
    }

    private long unfold(int line, Map<Integer, Long> known) {
        Line made = lines.get(line);
        if (made.clause >= 0) {
            return 1L;
        }
        if (!known.containsKey(line)) {
            known.put(line, 1L + unfold(made.first, known) + unfold(made.second, known));
        }
        return known.get(line);
    }

    public int space() {
        int end = end();
        Set<Integer> needed = neededFor(end);
        if (needed.size() > 12) {
            throw new UnsupportedOperationException();
        }
        int room = 1;
        while (!canEnd(needed, end, room)) {
            room++;
        }
        return room;
    }

    private boolean canEnd(Set<Integer> needed, int end, int room) {
        Set<Set<Integer>> seen = new LinkedHashSet<>();
        List<Set<Integer>> waiting = new ArrayList<>();
        waiting.add(new TreeSet<>());
        while (!waiting.isEmpty()) {
            Set<Integer> kept = waiting.remove(waiting.size() - 1);
            if (kept.size() > room || !seen.add(kept)) {
                continue;
            }
            if (kept.contains(end)) {
                return true;
            }
            for (int line : needed) {
                Line made = lines.get(line);
                if (kept.contains(line)) {
                    waiting.add(changed(kept, line, -1));
                } else if (made.clause >= 0) {
                    waiting.add(changed(kept, -1, line));
                } else if (kept.contains(made.first) && kept.contains(made.second)) {
                    waiting.add(changed(kept, -1, line));
                    waiting.add(changed(kept, made.first, line));
                    waiting.add(changed(kept, made.second, line));
                }
            }
        }
        return false;
    }

    private static Set<Integer> changed(Set<Integer> kept, int gone, int come) {
        Set<Integer> next = new TreeSet<>(kept);
        next.remove(gone);
        if (come >= 0) {
            next.add(come);
        }
        return next;
    }

    // ---- trees, widths, games

    public int treeSize() {
        element(models() == 0);
        return tree(new int[n], 's', new HashMap<>());
    }

    public int treeDepth() {
        element(models() == 0);
        return tree(new int[n], 'd', new HashMap<>());
    }

    public int treeWeight() {
        element(models() == 0);
        return tree(new int[n], 'w', new HashMap<>());
    }

    private int tree(int[] answers, char measure, Map<Integer, Integer> known) {
        if (isFalseBy(answers)) {
            return measure == 's' ? 1 : 0;
        }
        Integer old = known.get(code(answers));
        if (old != null) {
            return old;
        }
        int least = Integer.MAX_VALUE;
        for (int v = 0; v < n; v++) {
            if (answers[v] == 0) {
                least = Math.min(least, treeBy(answers, v, measure, known));
            }
        }
        known.put(code(answers), least);
        return least;
    }

    private int treeBy(int[] answers, int v, char measure, Map<Integer, Integer> known) {
        int one = tree(with(answers, v, 1), measure, known);
        int two = tree(with(answers, v, 2), measure, known);
        if (measure == 's') {
            return 1 + one + two;
        }
        if (measure == 'd') {
            return 1 + Math.max(one, two);
        }
        return one == two ? one + 1 : Math.max(one, two);
    }

    public int ask(int answers) {
        argument(isCode(answers));
        element(models() == 0);
        int[] told = digits(answers);
        element(!isFalseBy(told));
        Map<Integer, Integer> known = new HashMap<>();
        int least = tree(told, 's', known);
        for (int v = 0; v < n; v++) {
            if (told[v] == 0 && treeBy(told, v, 's', known) == least) {
                return v;
            }
        }
        throw new AssertionError("no variable is left");
    }

    public int width() {
        element(models() == 0);
        int width = 0;
        while (!saturation(width).contains(0)) {
            width++;
        }
        return width;
    }

    public int saturated(int width) {
        argument(width >= 0 && width <= 6);
        return saturation(width).size();
    }

    private Set<Integer> saturation(int width) {
        Set<Integer> all = new TreeSet<>();
        for (int[] clause : clauses) {
            if (usedOf(clause).size() <= width) {
                all.add(code(clause));
            }
        }
        Set<Integer> fresh = new TreeSet<>(all);
        while (!fresh.isEmpty()) {
            Set<Integer> come = new TreeSet<>();
            for (int one : fresh) {
                for (int two : all) {
                    for (int v = 0; v < n; v++) {
                        takeResolvent(digits(one), digits(two), v, width, come);
                        takeResolvent(digits(two), digits(one), v, width, come);
                    }
                }
            }
            come.removeAll(all);
            all.addAll(come);
            fresh = come;
        }
        return all;
    }

    private void takeResolvent(int[] one, int[] two, int v, int width, Set<Integer> come) {
        int[] both = resolvent(one, two, v);
        if (both != null && usedOf(both).size() <= width) {
            come.add(code(both));
        }
    }

    public int pebbles() {
        element(models() == 0);
        int many = 0;
        while (canEscape(many)) {
            many++;
        }
        return many;
    }

    /** Whether the second side has a family of answers that it never has to leave. */
    private boolean canEscape(int pebbles) {
        Set<Integer> family = new TreeSet<>();
        for (int answers = 0; answers < Math.pow(3, n); answers++) {
            if (usedOf(digits(answers)).size() <= pebbles && !isFalseBy(digits(answers))) {
                family.add(answers);
            }
        }
        boolean isShrinking = true;
        while (isShrinking) {
            isShrinking = false;
            for (int answers : new ArrayList<>(family)) {
                if (!canStay(digits(answers), pebbles, family)) {
                    family.remove(answers);
                    isShrinking = true;
                }
            }
        }
        return family.contains(0);
    }

    private boolean canStay(int[] answers, int pebbles, Set<Integer> family) {
        for (int v = 0; v < n; v++) {
            if (answers[v] != 0) {
                if (!family.contains(code(with(answers, v, 0)))) {
                    return false;
                }
            } else if (usedOf(answers).size() < pebbles
                    && !family.contains(code(with(answers, v, 1)))
                    && !family.contains(code(with(answers, v, 2)))) {
                return false;
            }
        }
        return true;
    }

    // ---- planes

    public int plane(int clause) {
        index(clause, clauses.size());
        state(planes.size() < 80);
        return putPlane(planeOf(clauses.get(clause)));
    }

    public int bound(int variable, boolean isDenied) {
        argument(variable >= 0 && variable < n);
        state(planes.size() < 80);
        return putPlane(boundOf(variable, isDenied));
    }

    public int sum(int plane, int times, int other, int otherTimes) {
        index(plane, planes.size());
        index(other, planes.size());
        argument(times >= 1 && times <= 9 && otherTimes >= 1 && otherTimes <= 9);
        int[] sum = sumOf(planes.get(plane), times, planes.get(other), otherTimes);
        for (int number : sum) {
            if (number < -9999 || number > 9999) {
                throw new UnsupportedOperationException();
            }
        }
        state(planes.size() < 80);
        return putPlane(sum);
    }

    public int divide(int plane, int by) {
        index(plane, planes.size());
        argument(by >= 2 && by <= 99);
        int[] quotient = quotientOf(planes.get(plane), by);
        if (quotient == null) {
            throw new UnsupportedOperationException();
        }
        state(planes.size() < 80);
        return putPlane(quotient);
    }

    public int planeAt(int plane, int variable) {
        index(plane, planes.size());
        argument(variable >= -1 && variable < n);
        return planes.get(plane)[variable < 0 ? n : variable];
    }

    public boolean refutes(int plane) {
        index(plane, planes.size());
        int[] numbers = planes.get(plane);
        for (int v = 0; v < n; v++) {
            if (numbers[v] != 0) {
                return false;
            }
        }
        return numbers[n] > 0;
    }

    public int toPlanes() {
        int end = end();
        List<int[]> moved = new ArrayList<>();
        Map<Integer, int[]> planeOf = new HashMap<>();
        for (int number : neededFor(end)) {
            Line made = lines.get(number);
            if (made.clause >= 0) {
                moved.add(planeOf(made.digits));
            } else {
                moved.add(sumOf(planeOf.get(made.first), 1, planeOf.get(made.second), 1));
                for (int v = 0; v < n; v++) {
                    int[] last = moved.get(moved.size() - 1);
                    if (Math.floorMod(last[v], 2) == 1) {
                        int[] bound = boundOf(v, last[v] < 0);
                        moved.add(bound);
                        moved.add(sumOf(last, 1, bound, 1));
                    }
                }
                moved.add(quotientOf(moved.get(moved.size() - 1), 2));
            }
            planeOf.put(number, moved.get(moved.size() - 1));
        }
        state(moved.size() <= 80);
        planes.clear();
        planes.addAll(moved);
        return planes.size();
    }

    public int planes() {
        return planes.size();
    }

    private int putPlane(int[] numbers) {
        planes.add(numbers);
        return planes.size() - 1;
    }

    private int[] planeOf(int[] clause) {
        int[] numbers = new int[n + 1];
        numbers[n] = 1;
        for (int v = 0; v < n; v++) {
            numbers[v] = clause[v] == 2 ? -1 : clause[v];
            numbers[n] -= clause[v] == 2 ? 1 : 0;
        }
        return numbers;
    }

    private int[] boundOf(int variable, boolean isDenied) {
        int[] numbers = new int[n + 1];
        numbers[variable] = isDenied ? -1 : 1;
        numbers[n] = isDenied ? -1 : 0;
        return numbers;
    }

    private static int[] sumOf(int[] one, int times, int[] two, int otherTimes) {
        int[] sum = new int[one.length];
        for (int i = 0; i < sum.length; i++) {
            sum[i] = times * one[i] + otherTimes * two[i];
        }
        return sum;
    }

    private int[] quotientOf(int[] numbers, int by) {
        int[] quotient = new int[n + 1];
        for (int v = 0; v < n; v++) {
            if (numbers[v] % by != 0) {
                return null;
            }
            quotient[v] = numbers[v] / by;
        }
        quotient[n] = (int) Math.ceil((double) numbers[n] / by);
        return quotient;
    }

    // ---- polynomials, between, lemmas, quantors

    public int term(int clause, int prime, int set) {
        index(clause, clauses.size());
        argument(isPrime(prime) && set >= 0 && set < total());
        return polynomialOf(clauses.get(clause), prime)[set];
    }

    public int staticDegree(int prime) {
        argument(isPrime(prime));
        element(models() == 0);
        for (int d = 0; ; d++) {
            List<int[]> products = new ArrayList<>();
            for (int[] clause : clauses) {
                int own = 0;
                for (int v : usedOf(clause)) {
                    own |= 1 << v;
                }
                for (int set = 0; set < total(); set++) {
                    if (Integer.bitCount(own | set) <= d) {
                        products.add(times(polynomialOf(clause, prime), set, prime));
                    }
                }
            }
            if (hasOne(echelon(products, prime))) {
                return d;
            }
        }
    }

    public int degree(int prime) {
        argument(isPrime(prime));
        element(models() == 0);
        for (int d = 0; ; d++) {
            List<int[]> space = new ArrayList<>();
            for (int[] clause : clauses) {
                if (usedOf(clause).size() <= d) {
                    space.add(polynomialOf(clause, prime));
                }
            }
            int before = -1;
            space = echelon(space, prime);
            while (space.size() > before) {
                before = space.size();
                List<int[]> more = new ArrayList<>(space);
                for (int[] row : space) {
                    if (degreeOf(row) < d) {
                        for (int v = 0; v < n; v++) {
                            more.add(times(row, 1 << v, prime));
                        }
                    }
                }
                space = echelon(more, prime);
            }
            if (hasOne(space)) {
                return d;
            }
        }
    }

    private int[] polynomialOf(int[] clause, int prime) {
        int[] product = new int[total()];
        product[0] = 1;
        for (int v : usedOf(clause)) {
            int[] byVariable = times(product, 1 << v, prime);
            for (int set = 0; set < total(); set++) {
                product[set] = clause[v] == 2
                        ? byVariable[set]
                        : Math.floorMod(product[set] - byVariable[set], prime);
            }
        }
        return product;
    }

    private int[] times(int[] polynomial, int factors, int prime) {
        int[] product = new int[total()];
        for (int set = 0; set < total(); set++) {
            product[set | factors] = (product[set | factors] + polynomial[set]) % prime;
        }
        return product;
    }

    private int degreeOf(int[] polynomial) {
        int degree = -1;
        for (int set = 0; set < total(); set++) {
            degree = Math.max(degree, polynomial[set] == 0 ? -1 : Integer.bitCount(set));
        }
        return degree;
    }

    /** Rows in a fully reduced form, the sets of the most variables first. */
    private List<int[]> echelon(List<int[]> given, int prime) {
        List<int[]> left = new ArrayList<>();
        for (int[] row : given) {
            left.add(row.clone());
        }
        List<Integer> columns = new ArrayList<>();
        for (int set = 0; set < total(); set++) {
            columns.add(set);
        }
        columns.sort((a, b) -> Integer.bitCount(b) - Integer.bitCount(a));
        List<int[]> done = new ArrayList<>();
        for (int column : columns) {
            int[] pivot = null;
            for (int[] row : left) {
                pivot = pivot == null && row[column] != 0 ? row : pivot;
            }
            if (pivot != null) {
                int first = pivot[column];
                int scale = 1;
                while (scale * first % prime != 1) {
                    scale++;
                }
                for (int set = 0; set < total(); set++) {
                    pivot[set] = pivot[set] * scale % prime;
                }
                left.remove(pivot);
                left.removeIf(row -> Arrays.stream(row).allMatch(number -> number == 0));
                List<int[]> others = new ArrayList<>(left);
                others.addAll(done);
                for (int[] row : others) {
                    int factor = row[column];
                    for (int set = 0; factor != 0 && set < total(); set++) {
                        row[set] = Math.floorMod(row[set] - factor * pivot[set], prime);
                    }
                }
                done.add(pivot);
            }
        }
        return done;
    }

    private boolean hasOne(List<int[]> reduced) {
        for (int[] row : reduced) {
            if (degreeOf(row) == 0) {
                return true;
            }
        }
        return false;
    }

    public int side(int clause, int side) {
        index(clause, clauses.size());
        argument(side == 0 || side == 1);
        return sides.set(clause, side);
    }

    public long between() {
        int end = end();
        long told = 0L;
        for (int values = 0; values < total(); values++) {
            if (tells(end, values, new HashMap<>())) {
                told |= 1L << values;
            }
        }
        return told;
    }

    private boolean tells(int line, int values, Map<Integer, Boolean> known) {
        Boolean old = known.get(line);
        if (old != null) {
            return old;
        }
        Line made = lines.get(line);
        boolean told;
        if (made.clause >= 0) {
            told = sides.get(made.clause) == 1;
        } else {
            boolean one = tells(made.first, values, known);
            boolean two = tells(made.second, values, known);
            boolean inZero = isOnSide(made.variable, 0);
            boolean inOne = isOnSide(made.variable, 1);
            if (inZero && inOne) {
                told = isTrueIn(made.variable, values) ? two : one;
            } else {
                told = inZero ? one || two : one && two;
            }
        }
        known.put(line, told);
        return told;
    }

    private boolean isOnSide(int variable, int side) {
        for (int c = 0; c < clauses.size(); c++) {
            if (sides.get(c) == side && clauses.get(c)[variable] != 0) {
                return true;
            }
        }
        return false;
    }

    public boolean follows(int clause) {
        argument(isCode(clause));
        int[] told = new int[n];
        for (int v = 0; v < n; v++) {
            told[v] = (3 - digits(clause)[v]) % 3;
        }
        List<int[]> all = new ArrayList<>(clauses);
        all.addAll(lemmas);
        boolean isTelling = true;
        while (isTelling) {
            isTelling = false;
            for (int[] one : all) {
                List<Integer> open = new ArrayList<>();
                boolean isKept = false;
                for (int v : usedOf(one)) {
                    isKept |= told[v] == one[v];
                    if (told[v] == 0) {
                        open.add(v);
                    }
                }
                if (!isKept && open.isEmpty()) {
                    return true;
                }
                if (!isKept && open.size() == 1) {
                    told[open.get(0)] = one[open.get(0)];
                    isTelling = true;
                }
            }
        }
        return false;
    }

    public int lemma(int clause) {
        argument(isCode(clause));
        if (!follows(clause)) {
            throw new UnsupportedOperationException();
        }
        state(lemmas.size() < 20);
        lemmas.add(digits(clause));
        return lemmas.size();
    }

    public char quantor(int variable, char kind) {
        argument(variable >= 0 && variable < n);
        argument(kind == 'e' || kind == 'a');
        char before = kinds[variable];
        kinds[variable] = kind;
        return before;
    }

    public boolean holds() {
        return holdsFrom(0, 0);
    }

    private boolean holdsFrom(int variable, int values) {
        if (variable == n) {
            return keepsAll(values);
        }
        boolean one = holdsFrom(variable + 1, values);
        boolean two = holdsFrom(variable + 1, values + (1 << variable));
        return kinds[variable] == 'a' ? one && two : one || two;
    }

    public boolean strategy(int variable, int values) {
        argument(variable >= 0 && variable < n && kinds[variable] == 'e');
        argument(values >= 0 && values < total());
        int lower = 0;
        for (int v = 0; v < variable; v++) {
            lower += isTrueIn(v, values) ? 1 << v : 0;
        }
        if (holdsFrom(variable + 1, lower)) {
            return false;
        }
        element(holdsFrom(variable + 1, lower + (1 << variable)));
        return true;
    }

    public float neededShare() {
        return (float) neededFor(end()).size() / (float) lines.size();
    }

    public double meanWidth() {
        if (clauses.isEmpty()) {
            throw new ArithmeticException();
        }
        int sum = 0;
        for (int[] clause : clauses) {
            sum += usedOf(clause).size();
        }
        return (double) sum / (double) clauses.size();
    }

    /** Each check of it follows from the others' promises, so it always holds. */
    public boolean isTrue() {
        return true;
    }

    // ---- what the drawing of calls asks

    int manyVariables() {
        return n;
    }

    int manyLines() {
        return lines.size();
    }

    boolean canResolve(int line, int other, int variable) {
        return resolvent(lines.get(line).digits, lines.get(other).digits, variable) != null;
    }

    // ---- parts

    private void anew(int many) {
        n = many;
        clauses.clear();
        sides.clear();
        lines.clear();
        planes.clear();
        lemmas.clear();
        kinds = "eeeeee".toCharArray();
    }

    private int append(int[] clause) {
        clauses.add(clause);
        sides.add(0);
        return clauses.size() - 1;
    }

    private int total() {
        return (int) Math.pow(2, n);
    }

    private boolean isCode(int code) {
        return code >= 0 && code < Math.pow(3, n);
    }

    private int[] digits(int code) {
        int[] digits = new int[n];
        int rest = code;
        for (int v = 0; v < n; v++) {
            digits[v] = rest % 3;
            rest /= 3;
        }
        return digits;
    }

    private static int code(int[] digits) {
        int code = 0;
        for (int v = digits.length - 1; v >= 0; v--) {
            code = 3 * code + digits[v];
        }
        return code;
    }

    private static List<Integer> usedOf(int[] digits) {
        List<Integer> used = new ArrayList<>();
        for (int v = 0; v < digits.length; v++) {
            if (digits[v] != 0) {
                used.add(v);
            }
        }
        return used;
    }

    private static int[] with(int[] digits, int v, int digit) {
        int[] changed = digits.clone();
        changed[v] = digit;
        return changed;
    }

    private static int[] resolvent(int[] one, int[] two, int variable) {
        if (one[variable] != 1 || two[variable] != 2) {
            return null;
        }
        int[] both = new int[one.length];
        for (int v = 0; v < one.length; v++) {
            if (v != variable) {
                if (one[v] + two[v] == 3) {
                    return null;
                }
                both[v] = Math.max(one[v], two[v]);
            }
        }
        return both;
    }

    private static boolean isTrueIn(int variable, int values) {
        return (values >> variable & 1) == 1;
    }

    private static boolean keeps(int[] clause, int values) {
        for (int v : usedOf(clause)) {
            if (clause[v] == (isTrueIn(v, values) ? 1 : 2)) {
                return true;
            }
        }
        return false;
    }

    private boolean keepsAll(int values) {
        for (int[] clause : clauses) {
            if (!keeps(clause, values)) {
                return false;
            }
        }
        return true;
    }

    private boolean isFalseBy(int[] answers) {
        for (int[] clause : clauses) {
            boolean isFalse = true;
            for (int v : usedOf(clause)) {
                isFalse &= answers[v] == 3 - clause[v];
            }
            if (isFalse) {
                return true;
            }
        }
        return false;
    }

    private int end() {
        for (int line = 0; line < lines.size(); line++) {
            if (usedOf(lines.get(line).digits).isEmpty()) {
                return line;
            }
        }
        throw new NoSuchElementException();
    }

    private Set<Integer> neededFor(int line) {
        Set<Integer> needed = new TreeSet<>();
        List<Integer> waiting = new ArrayList<>(List.of(line));
        while (!waiting.isEmpty()) {
            int next = waiting.remove(waiting.size() - 1);
            Line made = lines.get(next);
            if (needed.add(next) && made.clause < 0) {
                waiting.add(made.first);
                waiting.add(made.second);
            }
        }
        return needed;
    }

    private static boolean isPrime(int prime) {
        return prime == 2 || prime == 3 || prime == 5 || prime == 7;
    }

    private static void argument(boolean isGood) {
        if (!isGood) {
            throw new IllegalArgumentException();
        }
    }

    private static void state(boolean isGood) {
        if (!isGood) {
            throw new IllegalStateException();
        }
    }

    private static void index(int index, int many) {
        if (index < 0 || index >= many) {
            throw new IndexOutOfBoundsException();
        }
    }

    private static void element(boolean isThere) {
        if (!isThere) {
            throw new NoSuchElementException();
        }
    }
}
