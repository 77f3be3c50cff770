/** All that an object shows, a row for each call; what it holds is of no use afterwards. */
public final class Sight {
    private static final int MOST_CODES = 27;
    private static final int MOST_WHOLE_PLANES = 12;

    private final Proofweigh x;
    private final StringBuilder rows = new StringBuilder();
    private int variables = 6;

    private Sight(Proofweigh x) {
        this.x = x;
    }

    /** Asks some 280 calls at most, so the object may have had some 230 before. */
    static String of(Proofweigh x) {
        Sight sight = new Sight(x);
        sight.seeVariables();
        sight.seeFormula();
        sight.seeLines();
        sight.seePlanes();
        sight.seeLeast();
        sight.seeLemmas();
        return sight.rows.toString();
    }

    private Object see(String call, Check.Call made) {
        Object answer = Check.answerOf(made);
        rows.append(call).append(" answers ").append(answer).append('\n');
        return answer;
    }

    private void seeVariables() {
        int beyond = 3;
        for (int many = 1; many <= 5; many++) {
            int code = beyond;
            if (Check.ARGUMENT.equals(Check.answerOf(() -> x.follows(code)))) {
                variables = many;
                break;
            }
            beyond *= 3;
        }
        rows.append(variables).append(" variables\n");
        for (int variable = 0; variable < variables; variable++) {
            int asked = variable;
            char kind = x.quantor(variable, 'e');
            see("quantor(" + asked + ", 'e') after " + kind, () -> x.quantor(asked, kind));
        }
    }

    private void seeFormula() {
        int clauses = (Integer) see("clauses", x::clauses);
        for (int clause = 0; clause < clauses; clause++) {
            int asked = clause;
            see("clause(" + asked + ")", () -> x.clause(asked));
            int side = x.side(clause, 0);
            see("side(" + asked + ", 0) after " + side, () -> x.side(asked, side));
        }
        see("model", x::model);
        see("models", x::models);
        see("meanWidth", x::meanWidth);
        see("holds", x::holds);
    }

    private void seeLines() {
        for (int line = 0; line <= 40; line++) {
            int asked = line;
            if (see("lineAt(" + asked + ")", () -> x.lineAt(asked)) instanceof Class<?>) {
                break;
            }
        }
        for (char what : "swde".toCharArray()) {
            see("proof('" + what + "')", () -> x.proof(what));
        }
        see("isTree", x::isTree);
        see("isRegular", x::isRegular);
        see("unfolded", x::unfolded);
        see("space", x::space);
        see("between", x::between);
        see("neededShare", x::neededShare);
    }

    private void seePlanes() {
        int planes = (Integer) see("planes", x::planes);
        for (int plane = 0; plane < planes; plane++) {
            int asked = plane;
            boolean isWhole = plane < MOST_WHOLE_PLANES || plane == planes - 1;
            for (int variable = -1; variable < (isWhole ? variables : 0); variable++) {
                int place = variable;
                see("planeAt(" + asked + ", " + place + ")", () -> x.planeAt(asked, place));
            }
        }
    }

    private void seeLeast() {
        see("treeSize", x::treeSize);
        see("width", x::width);
        see("saturated(6)", () -> x.saturated(6));
        see("pebbles", x::pebbles);
        see("degree(3)", () -> x.degree(3));
        see("isTrue", x::isTrue);
    }

    /** How many lemmas there are is told by one more alone. */
    private void seeLemmas() {
        for (int code = 0; code < Math.min(MOST_CODES, Math.pow(3, variables)); code++) {
            int asked = code;
            see("follows(" + asked + ")", () -> x.follows(asked));
        }
        if (x.clauses() > 0) {
            int asked = x.clause(0);
            see("lemma(" + asked + ")", () -> x.lemma(asked));
        }
        see("variables(6)", () -> x.variables(6));
    }
}
