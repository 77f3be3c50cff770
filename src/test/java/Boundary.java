import java.io.IOException;
import java.nio.charset.StandardCharsets;
import java.nio.file.Files;
import java.nio.file.Path;
import java.util.ArrayList;
import java.util.List;
import java.util.Map;
import java.util.TreeMap;

/** Sentences of the document that name a boundary, each with checks of its own, and which of them are missing. */
public final class Boundary {
    static final int MIN = Integer.MIN_VALUE;
    static final int MAX = Integer.MAX_VALUE;
    /** In place of the number of a promise: the sentence stands before the promises. */
    static final int TERMS = 0;

    private static final Path DOCUMENT = Path.of("../shared/DOC.md");

    private final Map<Integer, String> promises = new TreeMap<>();
    private final List<String> told = new ArrayList<>();
    private String sentence = "";
    private int inSentence = 1;
    private int right = 0;
    private int wrong = 0;

    interface Made {
        Proofweigh make();
    }

    interface On {
        Object answer(Proofweigh x);
    }

    interface By {
        Object answer(Proofweigh x, int number);
    }

    Boundary() throws IOException {
        if (Files.exists(DOCUMENT)) {
            String[] parts = Files.readString(DOCUMENT, StandardCharsets.UTF_8).replace("`", "").split("\n## Promise ");
            for (int promise = 0; promise < parts.length; promise++) {
                promises.put(promise, parts[promise]);
            }
        }
    }

    /** Begins the checks of a sentence of a promise, quoted as it stands there. */
    void sentence(int promise, String words) {
        endSentence();
        sentence = (promise == TERMS ? "Terms" : "Promise " + promise) + ", \"" + words + "\"";
        told.add(promise + " " + words);
        if (!promises.isEmpty() && !promises.getOrDefault(promise, "").contains(words)) {
            fail("these words are not in the document");
        }
    }

    private void endSentence() {
        if (inSentence == 0) {
            fail("nothing was checked");
        }
        inSentence = 0;
    }

    /** Expects an answer, or, as a class of exceptions, that the call throws just this one. */
    void due(Object due, String call, Check.Call made) {
        inSentence++;
        Object got = Check.answerOf(made);
        if (due.equals(got)) {
            right++;
        } else {
            fail(call + " answered " + got + ", due is " + due);
        }
    }

    /** Expects an answer of a new object. */
    void allowed(Object due, String call, Made made, On on) {
        Proofweigh x = made.make();
        due(due, call, () -> on.answer(x));
    }

    /** Expects the answers of new objects to the numbers from one on; # stands for the number. */
    void allowedFrom(int first, String call, Made made, By by, Object... due) {
        for (int place = 0; place < due.length; place++) {
            int number = first + place;
            allowed(due[place], call.replace("#", "" + number), made, x -> by.answer(x, number));
        }
    }

    /** Expects that a call on a new object throws just this, and that the object shows what it would without it. */
    void refused(Class<?> due, String call, Made made, On on) {
        Proofweigh x = made.make();
        due(due, call, () -> on.answer(x));
        alike(call + " that was refused", made.make(), x);
    }

    /** Expects that numbers on both sides of a range are refused, next to it and far from it. */
    void refusedBeyond(int least, int most, Class<?> due, String call, Made made, By by) {
        for (int number : new int[] {least - 1, most + 1, least - 2, most + 2, most + 65536, MIN, MAX}) {
            refused(due, call.replace("#", "" + number), made, x -> by.answer(x, number));
        }
    }

    /** Expects that two objects show the same; what they hold is of no use afterwards. */
    void alike(String call, Proofweigh due, Proofweigh got) {
        alike(call, Sight.of(due), got);
    }

    /** Expects that an object shows what another one showed. */
    void alike(String call, String due, Proofweigh got) {
        String[] dueRows = due.split("\n");
        String[] gotRows = Sight.of(got).split("\n");
        due(dueRows.length, call + ": rows", () -> gotRows.length);
        for (int row = 0; row < dueRows.length && row < gotRows.length; row++) {
            String gotRow = gotRows[row];
            due(dueRows[row], call + ": a row", () -> gotRow);
        }
    }

    private void fail(String what) {
        wrong++;
        System.out.println(sentence + ": " + what);
    }

    /** Expects that each argument and each Throws row of the document has been a sentence here. */
    void end(String name) {
        endSentence();
        for (Map.Entry<Integer, String> promise : promises.entrySet()) {
            for (String row : promise.getValue().split("\n")) {
                String words = row.startsWith("Throws ") ? row.substring(7) : row.startsWith("- ") ? row.substring(2) : "";
                if (promise.getKey() > 0 && !words.isEmpty() && !told.contains(promise.getKey() + " " + words)) {
                    sentence = "Promise " + promise.getKey() + ", \"" + words + "\"";
                    fail("has no test");
                }
            }
        }
        System.out.println(name + ": " + told.size() + " sentences, " + right + " as due, " + wrong + " not");
        if (wrong != 0 || right == 0) {
            System.exit(1);
        }
    }
}
