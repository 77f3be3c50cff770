/** The boundaries that stand before the promises: clauses, families, lines, planes, polynomials, and how many calls. */
final class TermsBoundary {
    private static final Class<?> ARGUMENT = Check.ARGUMENT;
    private static final Class<?> INDEX = Check.INDEX;
    private static final Class<?> STATE = Check.STATE;
    private static final Class<?> UNSUPPORTED = Check.UNSUPPORTED;
    private static final Class<?> ELEMENT = Check.ELEMENT;
    private static final int TERMS = Boundary.TERMS;

    private TermsBoundary() {}

    static void check(Boundary b) {
        variables(b);
        codes(b);
        emptyClause(b);
        emptyFormula(b);
        clauses(b);
        draws(b);
        lifted(b);
        lines(b);
        spaces(b);
        planes(b);
        polynomials(b);
        calls(b);
    }

    private static void variables(Boundary b) {
        b.sentence(TERMS, "There are n variables, 1 to 6, numbered from 0, 6 at first.");
        b.allowed(6, "variables(1) at first", Proofweigh::new, x -> x.variables(1));
        b.allowed('e', "quantor(5, 'a') at first", Proofweigh::new, x -> x.quantor(5, 'a'));
        b.allowed(ARGUMENT, "quantor(6, 'a') at first", Proofweigh::new, x -> x.quantor(6, 'a'));
        b.allowed(ARGUMENT, "quantor(-1, 'a') at first", Proofweigh::new, x -> x.quantor(-1, 'a'));
        for (int variables = 1; variables <= 6; variables++) {
            int many = variables;
            int last = variables - 1;
            Boundary.Made made = () -> Check.formula(many, (int) Math.pow(3, last), 2 * (int) Math.pow(3, last));
            b.allowed(last, "bound(" + last + ", true) of " + many, made,
                    x -> x.bound(last, true) + x.planeAt(0, last) + 1 + last);
            b.allowed(last, "ask(0) of the last one of " + many, made, x -> x.ask(0));
            b.allowed(2, "resolve(0, 1, " + last + ") of " + many, made, x -> x.line(0) + x.line(1) - 1 + x.resolve(0, 1, last));
            b.allowed(ARGUMENT, "ask(" + (int) Math.pow(3, many) + ") of " + many, made, x -> x.ask((int) Math.pow(3, many)));
            b.allowed(1 << last, "broken(" + ((1 << many) - 1) + ") of " + many, made,
                    x -> x.broken((1 << many) - 1) - 1 + (1 << last));
        }
    }

    /** The digit of a variable in a code, counted off by hand. */
    private static int digit(int code, int variable) {
        int rest = code;
        for (int lower = 0; lower < variable; lower++) {
            rest /= 3;
        }
        return rest % 3;
    }

    private static void codes(Boundary b) {
        b.sentence(TERMS, "A clause is a number in base 3, with a digit for each variable, the variable 0 being the lowest:"
                + " 0 it is not in it, 1 it is in it, 2 it is in it denied; the empty clause is 0.");
        for (int code = 0; code < 729; code++) {
            int asked = code;
            Proofweigh x = Check.formula(6, asked);
            x.plane(0);
            for (int variable = 0; variable < 6; variable++) {
                int place = variable;
                int digit = digit(asked, variable);
                b.due(digit == 2 ? -1 : digit, "planeAt(0, " + place + ") of " + asked, () -> x.planeAt(0, place));
            }
        }
        b.sentence(TERMS, "Its width is how many variables are in it.");
        for (int code = 0; code < 729; code++) {
            int asked = code;
            int width = 0;
            for (int variable = 0; variable < 6; variable++) {
                width += digit(asked, variable) == 0 ? 0 : 1;
            }
            b.allowed((double) width, "meanWidth() of " + asked, () -> Check.formula(6, asked), x -> x.meanWidth());
            b.allowed(64 - (64 >> width), "models() of " + asked, () -> Check.formula(6, asked), x -> x.models());
        }
        b.sentence(TERMS, "Values of all variables are the sum of 2 to the power of each that is true.");
        for (int values = 0; values < 64; values++) {
            int asked = values;
            int[] units = new int[6];
            int power = 1;
            for (int variable = 0; variable < 6; variable++) {
                units[variable] = (values >> variable & 1) != 0 ? power : 2 * power;
                power *= 3;
            }
            b.allowed(asked, "model() of what " + asked + " keeps", () -> Check.formula(6, units), x -> x.model());
            b.allowed(ELEMENT, "broken(" + asked + ")", () -> Check.formula(6, units), x -> x.broken(asked));
            for (int variable = 0; variable < 6; variable++) {
                int other = variable;
                b.allowed(other, "broken(" + (asked ^ 1 << other) + ")", () -> Check.formula(6, units),
                        x -> x.broken(asked ^ 1 << other));
            }
        }
    }

    private static void emptyClause(Boundary b) {
        b.sentence(TERMS, "the empty clause is 0");
        for (int variables = 1; variables <= 6; variables++) {
            int many = variables;
            Boundary.Made made = () -> Check.formula(many, 0);
            b.allowed(0, "clause(0)", made, x -> x.clause(0));
            b.allowed(0, "models()", made, x -> x.models());
            b.allowed(ELEMENT, "model()", made, x -> x.model());
            b.allowed(0, "broken(0)", made, x -> x.broken(0));
            b.allowed(0, "proof('e') of it", made, x -> x.line(0) + x.proof('e'));
            b.allowed(1, "proof('s') of it", made, x -> x.line(0) + x.proof('s'));
            b.allowed(UNSUPPORTED, "resolve(0, 0, 0) of it", made, x -> x.line(0) + x.resolve(0, 0, 0));
            b.allowed("1 0 0 0 0", "the least ones", made, x -> x.treeSize() + " " + x.treeDepth() + " " + x.treeWeight()
                    + " " + x.width() + " " + x.pebbles());
            b.allowed(ELEMENT, "ask(0)", made, x -> x.ask(0));
            b.allowed(1, "saturated(0)", made, x -> x.saturated(0));
            b.allowed(true, "refutes(0) of its plane", made, x -> x.plane(0) == 0 && x.refutes(0));
            b.allowed(1, "toPlanes() of it", made, x -> x.line(0) + x.toPlanes());
            b.allowed(1, "term(0, 7, 0)", made, x -> x.term(0, 7, 0));
            b.allowed(0, "term(0, 7, 1)", made, x -> x.term(0, 7, 1));
            b.allowed(0, "degree(2) and staticDegree(2)", made, x -> x.degree(2) + x.staticDegree(2));
            b.allowed(true, "follows(0)", made, x -> x.follows(0));
            b.allowed(1, "lemma(0)", made, x -> x.lemma(0));
            b.allowed(false, "holds()", made, x -> x.holds());
            b.allowed(0.0, "meanWidth()", made, x -> x.meanWidth());
            b.allowed(true, "isTrue()", made, x -> x.isTrue());
        }
    }

    private static void emptyFormula(Boundary b) {
        b.sentence(1, "an empty formula and an empty proof");
        for (int variables = 1; variables <= 6; variables++) {
            int many = variables;
            Boundary.Made made = () -> Check.formula(many);
            b.allowed(0, "clauses()", made, x -> x.clauses());
            b.allowed(0, "clear()", made, x -> x.clear());
            b.allowed(0, "model()", made, x -> x.model());
            b.allowed(1 << many, "models()", made, x -> x.models());
            b.allowed(ELEMENT, "broken(0)", made, x -> x.broken(0));
            b.allowed(INDEX, "line(0)", made, x -> x.line(0));
            b.allowed(INDEX, "cut(0)", made, x -> x.cut(0));
            b.allowed(INDEX, "plane(0)", made, x -> x.plane(0));
            b.allowed(INDEX, "term(0, 2, 0)", made, x -> x.term(0, 2, 0));
            b.allowed(INDEX, "side(0, 0)", made, x -> x.side(0, 0));
            b.allowed(0, "saturated(6)", made, x -> x.saturated(6));
            b.allowed(0, "planes()", made, x -> x.planes());
            b.allowed(false, "follows(0)", made, x -> x.follows(0));
            b.allowed(UNSUPPORTED, "lemma(1)", made, x -> x.lemma(1));
            b.allowed(true, "holds()", made, x -> x.holds());
            b.allowed(false, "strategy(" + (many - 1) + ", 0)", made, x -> x.strategy(many - 1, 0));
            b.allowed(Check.ARITHMETIC, "meanWidth()", made, x -> x.meanWidth());
            b.allowed(true, "isTrue()", made, x -> x.isTrue());
        }
    }

    private static void clauses(Boundary b) {
        b.sentence(TERMS, "The formula has at most 32 clauses, numbered from 0 in their order, perhaps alike.");
        Proofweigh x = Check.formula(1);
        for (int clause = 0; clause < 32; clause++) {
            int number = clause;
            b.due(number, "add(1) again", () -> x.add(1));
            b.due(number + 1, "clauses()", () -> x.clauses());
        }
        b.due(STATE, "add(1) when there are 32", () -> x.add(1));
        b.due(STATE, "add(2) when there are 32", () -> x.add(2));
        b.due(32, "clauses() after that", () -> x.clauses());
        b.due(1, "models() after that", () -> x.models());
        b.due(1, "saturated(1) of alike ones", () -> x.saturated(1));
        b.due(1.0, "meanWidth() of alike ones", () -> x.meanWidth());
        Proofweigh y = Check.formula(6);
        for (int clause = 0; clause < 32; clause++) {
            y.add(728 - 20 * clause);
        }
        for (int clause = 0; clause < 32; clause++) {
            int number = clause;
            b.due(728 - 20 * number, "clause(" + number + ") in their order", () -> y.clause(number));
        }
    }

    private static void draws(Boundary b) {
        b.sentence(TERMS, "with z the seed at first, each draw makes z 1103515245 times z plus 12345, as an int,"
                + " and tells z without sign shifted by 16 bits, modulo what is wanted");
        // 1103515245 times 1 and 12345 is 1103527590, which shifted is 16838; 16838 modulo 3 is 2.
        b.allowed(2, "chance(1, 1, 1)", States::empty, x -> x.chance(1, 1, 1));
        // 12345 shifted is 0.
        b.allowed(0, "chance(1, 1, 0)", States::empty, x -> x.chance(1, 1, 0));
        // -1103502900 without sign is 3191464396, which shifted is 48697; with its sign it would be below 0.
        b.allowed(48697 % 3, "chance(1, 1, -1)", States::empty, x -> x.chance(1, 1, -1));
        // 2207042835 is -2087924461 as an int, without sign again 2207042835, which shifted is 33676.
        b.allowed(33676 % 3, "chance(1, 1, 2)", States::empty, x -> x.chance(1, 1, 2));
        // 3 times 1103515245 and 12345 is 3310558080, which shifted is 50515.
        b.allowed(50515 % 3, "chance(1, 1, 3)", States::empty, x -> x.chance(1, 1, 3));
        // 4 times 1103515245 and 12345 is 4414073325, beyond 4294967296 by 119106029, which shifted is 1817.
        b.allowed(1817 % 3, "chance(1, 1, 4)", States::empty, x -> x.chance(1, 1, 4));
        // 1103515245 is odd: the lowest seed adds the highest bit alone to 12345, and 2147495993 shifted is 32768.
        b.allowed(32768 % 3, "chance(1, 1, MIN)", States::empty, x -> x.chance(1, 1, Boundary.MIN));
        // The highest seed is that less 1: 2147495993 less 1103515245 is 1043980748, which shifted is 15929.
        b.allowed(15929 % 3, "chance(1, 1, MAX)", States::empty, x -> x.chance(1, 1, Boundary.MAX));
    }

    private static void lifted(Boundary b) {
        b.sentence(TERMS, "for each choice, by rising numbers, a bit for each of its variables, the first one the lowest");
        int[] due = new int[8];
        // x0 or x1 or x2: both of each as they are, or both denied.
        for (int choice = 0; choice < 8; choice++) {
            for (int variable = 0; variable < 3; variable++) {
                int power = (int) Math.pow(3, variable);
                due[choice] += (choice >> variable & 1) == 0 ? power + 27 * power : 2 * power + 54 * power;
            }
        }
        sameClauses(b, "lift() of x0 or x1 or x2", 13, due);
        // x0, x1 and x2 denied: the first one as it is and the second one denied, or the other way round.
        for (int choice = 0; choice < 8; choice++) {
            due[choice] = 0;
            for (int variable = 0; variable < 3; variable++) {
                int power = (int) Math.pow(3, variable);
                due[choice] += (choice >> variable & 1) == 0 ? power + 54 * power : 2 * power + 27 * power;
            }
        }
        sameClauses(b, "lift() of all three denied", 26, due);
        // x0 and x2, x2 denied: the bit of x2 is the second one, as x1 is not in it.
        sameClauses(b, "lift() of x0 or x2 denied", 1 + 18,
                1 + 27 + 9 + 486, 2 + 54 + 9 + 486, 1 + 27 + 18 + 243, 2 + 54 + 18 + 243);
        sameClauses(b, "lift() of x1", 3, 3 + 81, 6 + 162);
        sameClauses(b, "lift() of x1 denied", 6, 3 + 162, 6 + 81);
    }

    private static void sameClauses(Boundary b, String call, int code, int... due) {
        Proofweigh x = Check.formula(3, code);
        b.due(due.length, call, () -> x.lift());
        for (int clause = 0; clause < due.length; clause++) {
            int number = clause;
            b.due(due[number], call + ": clause(" + number + ")", () -> x.clause(number));
        }
    }

    private static void lines(Boundary b) {
        b.sentence(TERMS, "A proof has at most 40 lines, numbered from 0: clauses of the formula, and resolvents of two earlier"
                + " ones");
        Proofweigh x = Check.formula(2, 1, 2 + 3);
        b.due(0, "line(0)", () -> x.line(0));
        b.due(1, "line(1)", () -> x.line(1));
        for (int line = 2; line < 40; line++) {
            int number = line;
            b.due(number, "resolve(0, 1, 0) again", () -> x.resolve(0, 1, 0));
            b.due(3, "lineAt(" + number + ")", () -> x.lineAt(number));
        }
        b.due(STATE, "resolve(0, 1, 0) when there are 40", () -> x.resolve(0, 1, 0));
        b.due(STATE, "line(0) when there are 40", () -> x.line(0));
        b.due(INDEX, "lineAt(40)", () -> x.lineAt(40));
        b.due(39, "cut(39)", () -> x.cut(39));
        b.due(39, "line(1) when there are 39", () -> x.line(1));
        b.sentence(TERMS, "Needed for a line are it, and the lines of which it is made, and theirs, each once");
        b.allowed("7 2 2 7", "what is needed for the end of nine lines", States::mixed,
                y -> y.proof('s') + " " + y.proof('w') + " " + y.proof('d') + " " + y.proof('e'));
        b.allowed("1 0 0 2", "what is needed for the empty clause behind wider ones", () -> {
            Proofweigh y = Check.formula(6, 728, 364, 0);
            Check.putAll(y);
            return y;
        }, y -> y.proof('s') + " " + y.proof('w') + " " + y.proof('d') + " " + y.proof('e'));
    }

    private static void spaces(Boundary b) {
        b.sentence(TERMS, "a clause can be kept at any time, a resolvent when both its lines are, also in place of one of them,"
                + " any line can be forgotten; it ends as the end is kept.");
        b.allowed(1, "space() of one clause", () -> resolved(new int[] {0}), x -> x.space());
        b.allowed(2, "space() of an end in place of one of two", States::ended, x -> x.space());
        // Each step keeps the last one and a clause, and puts the next one in place of either.
        b.allowed(2, "space() of a row of four", () -> resolved(new int[] {1, 5, 15, 45, 54},
                0, 1, 0, 5, 2, 1, 6, 3, 2, 7, 4, 3), x -> x.space());
        // One half is kept while the other half takes two.
        b.allowed(3, "space() of two halves", () -> resolved(new int[] {4, 5, 7, 8}, 0, 1, 0, 2, 3, 0, 4, 5, 1), x -> x.space());
        b.allowed(3, "space() of two halves and a clause", () -> resolved(new int[] {13, 14, 16, 17, 18},
                0, 1, 0, 2, 3, 0, 5, 6, 1, 7, 4, 2), x -> x.space());
        // Resolvents that are used twice are kept, as to make them again takes as much room.
        b.allowed(4, "space() of ten lines, two of them kept", () -> resolved(new int[] {23, 8, 14, 1},
                3, 0, 0, 2, 1, 1, 4, 1, 1, 5, 0, 2, 3, 2, 0, 3, 1, 0, 8, 9, 1, 7, 1, 1, 4, 9, 1, 10, 12, 2), x -> x.space());
        b.allowed(3, "space() of ten lines, none of them kept", () -> resolved(new int[] {5, 24, 4, 25, 15},
                2, 4, 1, 2, 1, 1, 5, 6, 2, 4, 1, 2, 0, 8, 1, 5, 1, 2, 7, 9, 0), x -> x.space());
        b.allowed(3, "space() in place of the first clause of all", () -> resolved(new int[] {24, 19, 1, 5, 17, 25},
                1, 3, 0, 2, 3, 0, 2, 4, 0, 7, 8, 1, 9, 0, 2, 6, 10, 1, 9, 11, 2), x -> x.space());
        b.allowed(4, "space() of twelve lines", () -> resolved(new int[] {11, 23, 4, 11, 18, 16},
                5, 0, 0, 2, 1, 0, 2, 6, 1, 2, 3, 0, 9, 7, 2, 3, 1, 2, 3, 4, 2, 5, 4, 2, 13, 12, 0, 10, 14, 1), x -> x.space());
    }

    /** All clauses of a formula as its lines, then resolvents, each by two lines and a variable. */
    private static Proofweigh resolved(int[] clauses, int... steps) {
        Proofweigh x = Check.formula(6, clauses);
        Check.putAll(x);
        for (int step = 0; step + 2 < steps.length; step += 3) {
            x.resolve(steps[step], steps[step + 1], steps[step + 2]);
        }
        return x;
    }

    private static void planes(Boundary b) {
        b.sentence(TERMS, "At most 80 planes are numbered from 0, each a coefficient for each variable and a bound");
        Proofweigh x = Check.formula(6, 0, 728);
        Boundary.By[] kinds = {
            (y, k) -> y.plane(1), (y, k) -> y.bound(k % 6, k % 4 == 1), (y, k) -> y.sum(k - 1, 1, 1, 1), (y, k) -> y.plane(0)
        };
        for (int plane = 0; plane < 80; plane++) {
            int number = plane;
            b.due(number, "a plane when there are " + number, () -> kinds[number % 4].answer(x, number));
            b.due(number + 1, "planes()", () -> x.planes());
        }
        b.due(STATE, "plane(0) when there are 80", () -> x.plane(0));
        b.due(STATE, "bound(0, true) when there are 80", () -> x.bound(0, true));
        b.due(STATE, "sum(3, 1, 3, 1) when there are 80", () -> x.sum(3, 1, 3, 1));
        b.due(STATE, "divide(3, 2) when there are 80", () -> x.divide(3, 2));
        b.due(80, "planes() after that", () -> x.planes());
        b.due(INDEX, "planeAt(80, -1)", () -> x.planeAt(80, -1));
        for (int plane = 3; plane < 80; plane += 4) {
            int number = plane;
            b.due(1, "planeAt(" + number + ", -1)", () -> x.planeAt(number, -1));
            b.due(-5, "planeAt(" + (number - 3) + ", -1)", () -> x.planeAt(number - 3, -1));
        }
        b.sentence(TERMS, "the sum of coefficients times values, 1 for true, is at least the bound");
        b.allowed(true, "isTrue() of planes that just hold", () -> {
            Proofweigh y = Check.formula(6, 1, 6, 9, 54, 81, 486);
            for (int clause = 0; clause < 6; clause++) {
                y.plane(clause);
            }
            y.sum(0, 9, 1, 9);
            y.sum(6, 9, 2, 1);
            return y;
        }, y -> y.isTrue());
    }

    private static void polynomials(Boundary b) {
        b.sentence(TERMS, "Modulo a prime, 2, 3, 5 or 7, they have a number for each set of variables, as values are 0 or 1.");
        for (int number = -1; number <= 12; number++) {
            int prime = number;
            boolean isPrime = number == 2 || number == 3 || number == 5 || number == 7;
            Object none = ARGUMENT;
            b.allowed(isPrime ? (Object) 1 : none, "degree(" + prime + ")", States::contrary, x -> x.degree(prime));
            b.allowed(isPrime ? (Object) 1 : none, "staticDegree(" + prime + ")", States::contrary, x -> x.staticDegree(prime));
            b.allowed(isPrime ? (Object) (prime - 1) : none, "term(0, " + prime + ", 1)", States::contrary,
                    x -> x.term(0, prime, 1));
        }
        b.sentence(TERMS, "That of a clause is the product of 1 less each variable in it, and of each denied one.");
        int[] due = {0, 0, 1, -1, 0, 0, -1, 1};
        // 1 less x0, x1 denied, 1 less x2: x1 less x0 x1 less x1 x2, and x0 x1 x2.
        for (int set = 0; set < 8; set++) {
            int asked = set;
            for (int prime : new int[] {2, 3, 5, 7}) {
                b.allowed(Math.floorMod(due[asked], prime), "term(0, " + prime + ", " + asked + ")",
                        () -> Check.formula(3, 1 + 6 + 9), x -> x.term(0, prime, asked));
            }
        }
    }

    /** The calls of an object up to the 512th, which is the last one that is promised. */
    private static void calls(Boundary b) {
        b.sentence(TERMS, "An object is used for at most 512 calls after it has been made");
        Proofweigh x = new Proofweigh();
        x.chance(6, 32, 1);
        for (int call = 2; call < 512; call++) {
            int seed = call;
            b.due(32, "clauses() after chance(6, 32, " + (seed / 2) + ")", () -> {
                return seed % 2 == 0 ? (x.chance(6, 32, seed / 2) >= 0 ? 32 : 0) : x.clauses();
            });
        }
        Proofweigh due = new Proofweigh();
        due.chance(6, 32, 255);
        b.due(due.models(), "models() as the 512th call", () -> x.models());
        Proofweigh y = new Proofweigh();
        for (int call = 1; call < 512; call++) {
            int clause = call;
            b.due(INDEX, "clause(" + clause + "), the call " + clause, () -> y.clause(clause));
        }
        b.due(0, "add(728) as the 512th call", () -> y.add(728));
        Proofweigh z = TreesBoundary.six();
        for (int call = 9; call < 512; call++) {
            b.due(true, "isTrue() as one of many calls", () -> z.isTrue());
        }
        b.due(6, "degree(7) as the 512th call", () -> z.degree(7));
        Proofweigh u = States.contrary();
        for (int call = 4; call < 510; call += 3) {
            b.due(0, "line(0) again", () -> u.line(0));
            b.due(1, "line(1) again", () -> u.line(1));
            b.due(0, "cut(0) again", () -> u.cut(0));
        }
        b.due(0, "line(1) at last", () -> u.line(1));
    }
}
