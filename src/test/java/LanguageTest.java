import java.io.IOException;
import java.lang.reflect.Constructor;
import java.lang.reflect.Field;
import java.lang.reflect.Method;
import java.lang.reflect.Modifier;
import java.nio.charset.StandardCharsets;
import java.nio.file.Files;
import java.nio.file.Path;
import java.util.Arrays;
import java.util.Set;
import java.util.TreeSet;
import java.util.regex.Matcher;
import java.util.regex.Pattern;

/** The face of the document, and what LANGUAGE.md rules out as far as words and members tell it. */
public final class LanguageTest {
    private static final Check CHECK = new Check();
    private static final String[] RULED_OUT = {
        "->", "::", "\\btry\\b", "\\bcatch\\b", "\\bfinally\\b", "\\bsynchronized\\b", "\\bassert\\b", "\\bMath\\.\\w*Exact\\b",
        "\\bequals\\s*\\(", "\\bhashCode\\b", "\\btoString\\b", "\\bSystem\\b", "\\bThread\\b", "\\bRandom\\b",
        "\\bstatic\\s*\\{", "\\bprotected\\b", "\\bpackage\\b", "\"\\s*\\+", "\\+\\s*\"", "[^\\x00-\\x7F]"
    };
    private static final String[] FACE = {
        "int variables(int)", "int add(int)", "int clear()", "int clause(int)", "int clauses()", "int holes(int, int)",
        "int ring(int)", "int stair(int)", "int chance(int, int, int)", "int lift()", "int model()", "int models()",
        "int broken(int)", "int line(int)", "int resolve(int, int, int)", "int cut(int)", "int lineAt(int)",
        "int proof(char)", "boolean isTree()", "boolean isRegular()", "long unfolded()", "int space()",
        "int treeSize()", "int treeDepth()", "int treeWeight()", "int ask(int)", "int width()", "int saturated(int)",
        "int pebbles()", "int plane(int)", "int bound(int, boolean)", "int sum(int, int, int, int)",
        "int divide(int, int)", "int planeAt(int, int)", "boolean refutes(int)", "int toPlanes()", "int planes()",
        "int term(int, int, int)", "int staticDegree(int)", "int degree(int)", "int side(int, int)", "long between()",
        "boolean follows(int)", "int lemma(int)", "char quantor(int, char)", "boolean holds()",
        "boolean strategy(int, int)", "float neededShare()", "double meanWidth()", "boolean isTrue()"
    };

    public static void main(String[] args) throws IOException {
        face();
        members();
        words(Files.readString(Path.of("src/main/java/Proofweigh.java"), StandardCharsets.UTF_8));
        CHECK.end("LanguageTest");
    }

    private static void face() {
        Set<String> open = new TreeSet<>();
        Set<String> closed = new TreeSet<>();
        for (Method method : Proofweigh.class.getDeclaredMethods()) {
            String taken = Arrays.toString(Arrays.stream(method.getParameterTypes()).map(Class::getName).toArray());
            String told = method.getReturnType().getName() + " " + method.getName() + taken.replace('[', '(')
                    .replace(']', ')');
            if (Modifier.isPublic(method.getModifiers())) {
                open.add(told);
            } else {
                closed.add(method.getName());
                CHECK.due(told + " is private", true, () -> Modifier.isPrivate(method.getModifiers()));
            }
        }
        CHECK.due("the public methods", new TreeSet<>(Arrays.asList(FACE)), () -> open);
        for (String told : FACE) {
            String name = told.substring(told.indexOf(' ') + 1, told.indexOf('('));
            CHECK.due("a private method bears the name " + name, false, () -> closed.contains(name));
            for (Class<?> inside : Proofweigh.class.getDeclaredClasses()) {
                CHECK.due("a method inside bears the name " + name, false, () -> Arrays.stream(
                        inside.getDeclaredMethods()).anyMatch(method -> method.getName().equals(name)));
            }
        }
    }

    private static void members() {
        CHECK.due("the class is public and final", Modifier.PUBLIC | Modifier.FINAL,
                () -> Proofweigh.class.getModifiers());
        Constructor<?>[] made = Proofweigh.class.getDeclaredConstructors();
        CHECK.due("one constructor without parameters", "1 0", () -> made.length + " " + made[0].getParameterCount());
        CHECK.due("at most twelve classes", true, () -> Proofweigh.class.getDeclaredClasses().length <= 11);
        CHECK.due("no class above it", Object.class.getName(), () -> Proofweigh.class.getSuperclass().getName());
        fieldsOf(Proofweigh.class);
        for (Class<?> inside : Proofweigh.class.getDeclaredClasses()) {
            fieldsOf(inside);
            CHECK.due(inside + " is private, static and final", Modifier.PRIVATE | Modifier.STATIC | Modifier.FINAL,
                    () -> inside.getModifiers());
        }
    }

    private static void fieldsOf(Class<?> type) {
        int fields = 0;
        for (Field field : type.getDeclaredFields()) {
            CHECK.due(field + " is private", true, () -> Modifier.isPrivate(field.getModifiers()));
            if (Modifier.isStatic(field.getModifiers())) {
                CHECK.due(field + " is final", true, () -> Modifier.isFinal(field.getModifiers()));
            } else {
                fields++;
            }
        }
        int many = fields;
        CHECK.due(type + " has at most twenty fields", true, () -> many <= 20);
    }

    private static void words(String text) {
        String code = text.replaceAll("(?s)/\\*.*?\\*/", "").replaceAll("//[^\n]*", "");
        for (String word : RULED_OUT) {
            Matcher found = Pattern.compile(word).matcher(code);
            CHECK.due("the program holds " + word, false, found::find);
        }
        Matcher imports = Pattern.compile("import [^;]*;").matcher(code);
        StringBuilder all = new StringBuilder();
        while (imports.find()) {
            all.append(imports.group());
        }
        CHECK.due("the imports", "import java.util.NoSuchElementException;", all::toString);
    }
}
