import java.io.IOException;
import java.nio.charset.StandardCharsets;
import java.nio.file.Files;
import java.nio.file.Path;
import java.util.ArrayList;
import java.util.LinkedHashMap;
import java.util.List;
import java.util.Map;
import java.util.regex.Matcher;
import java.util.regex.Pattern;

/** Those rules of LANGUAGE.md that a look at the source can tell; the class keeps to less than they leave. */
final class LanguageTest {
    private static final Check CHECK = new Check("LanguageTest");
    private static final String EXCEPTION = "(IndexOutOfBounds|IllegalArgument|IllegalState)Exception";
    private static final Pattern METHOD = Pattern.compile(
            "(?m)^ +(?:public|private)(?: static)?((?: [\\w\\[\\]]+)?) (\\w+)\\(([^)]*)\\)[^{};=]*\\{");

    private final String source;
    private final String code;
    private final Map<String, String> bodies = new LinkedHashMap<>();
    private final Map<String, Integer> deep = new LinkedHashMap<>();
    private final List<String> constructors = new ArrayList<>();

    private LanguageTest(String source) {
        this.source = source;
        code = source.replaceAll("(?s)/\\*.*?\\*/", " ").replaceAll("//[^\n]*", " ")
                .replaceAll("\"[^\"]*\"", "TEXT");
    }

    public static void main(String[] args) throws IOException {
        byte[] bytes = Files.readAllBytes(Path.of("src/main/java/FacadeShow.java"));
        LanguageTest test = new LanguageTest(new String(bytes, StandardCharsets.ISO_8859_1));
        test.signsAndWords();
        test.methodsHaveNamesOfTheirOwn();
        test.methodsAreShort();
        test.callsGoNotDeep();
        test.onlyTheDocumentsExceptionsAreThrown();
        test.loopsCountAgainstABound();
        test.onlyNewProjectorsAreMade();
        CHECK.end();
    }

    private boolean codeHas(String pattern) {
        return Pattern.compile(pattern).matcher(code).find();
    }

    /** Rules 1, 3, 4, 6, 13. */
    private void signsAndWords() {
        CHECK.isTrue("signs 1 to 127", source.chars().allMatch(sign -> sign > 0 && sign < 128));
        String[] ruledOut = {"package", "import", "try", "catch", "finally", "synchronized", "assert", "float",
            "double", "System", "Object", "Random", "Thread", "volatile", "transient", "native", "var",
            "protected", "equals", "hashCode", "toString", "instanceof"};
        for (String word : ruledOut) {
            CHECK.isTrue("no " + word, !codeHas("\\b" + word + "\\b"));
        }
        CHECK.isTrue("no lambda, no method reference", !code.contains("->") && !code.contains("::"));
        CHECK.isTrue("no texts joined by +", !codeHas("TEXT *\\+|\\+ *TEXT"));
        CHECK.isTrue("no library but Integer.bitCount", !Pattern.compile("\\b(Integer|Math|Long|Arrays|List|String)\\b")
                .matcher(code.replace("Integer.bitCount(", "")).find());
    }

    /** Rules 1 and 11; finds the methods for those that come after it. */
    private void methodsHaveNamesOfTheirOwn() {
        Matcher found = METHOD.matcher(code);
        while (found.find()) {
            String name = found.group(2);
            String body = code.substring(found.end(), endOf(found.end()));
            CHECK.isTrue("one method " + name, bodies.put(name, body) == null);
            CHECK.isTrue("parameters of " + name, found.group(3).split(",").length <= 7);
            if (found.group(1).isEmpty()) {
                constructors.add(name);
            }
        }
        List<Class<?>> classes = new ArrayList<>(List.of(FacadeShow.class.getDeclaredClasses()));
        classes.add(FacadeShow.class);
        int methods = 0;
        for (Class<?> holder : classes) {
            methods += holder.getDeclaredMethods().length;
        }
        CHECK.due("constructors found", constructors.size(), classes.size());
        CHECK.due("methods found", bodies.size() - constructors.size(), methods);
        CHECK.isTrue("some twelve classes", classes.size() <= 12);
    }

    private int endOf(int begin) {
        int open = 1;
        int at = begin;
        while (open > 0) {
            char sign = code.charAt(at++);
            open += sign == '{' ? 1 : sign == '}' ? -1 : 0;
        }
        return at;
    }

    /** Rule 11. */
    private void methodsAreShort() {
        for (Map.Entry<String, String> method : bodies.entrySet()) {
            CHECK.isTrue("some sixty lines of " + method.getKey(), method.getValue().split("\n").length <= 60);
        }
    }

    /** Rules 8 and 11: there is no recursion at all. */
    private void callsGoNotDeep() {
        for (String name : bodies.keySet()) {
            CHECK.isTrue("calls of " + name + " go at most eight deep", depthOf(name, new ArrayList<>()) <= 8);
        }
    }

    private int depthOf(String name, List<String> open) {
        if (open.contains(name)) {
            return 1000;
        }
        if (deep.containsKey(name)) {
            return deep.get(name);
        }
        open.add(name);
        int most = 0;
        Matcher called = Pattern.compile("\\b(\\w+)\\(").matcher(bodies.get(name));
        while (called.find()) {
            if (bodies.containsKey(called.group(1))) {
                most = Math.max(most, depthOf(called.group(1), open));
            }
        }
        open.remove(name);
        deep.put(name, most + 1);
        return most + 1;
    }

    /** Rule 6: thrown by calls of the face alone, each with a written text. */
    private void onlyTheDocumentsExceptionsAreThrown() {
        String rest = code.replaceAll("throw new " + EXCEPTION + "\\(TEXT\\);", "");
        CHECK.isTrue("only these exceptions", !rest.matches("(?s).*\\bthrow\\b.*"));
        for (Map.Entry<String, String> method : bodies.entrySet()) {
            boolean isOfTheFace = codeHas("public (int|void|boolean|long) " + method.getKey() + "\\(");
            CHECK.isTrue("throws in " + method.getKey(), isOfTheFace || !method.getValue().contains("throw "));
        }
    }

    /** Rule 9. */
    private void loopsCountAgainstABound() {
        CHECK.isTrue("only loops with a counter", !codeHas("\\b(while|do)\\b"));
        String counted = "\\bfor \\(int (\\w+) = [^;]+; (?:\\w+ && )?\\1 <=? [^;]+; \\1\\+\\+\\) \\{";
        CHECK.isTrue("each with a bound", !Pattern.compile("\\bfor\\b").matcher(code.replaceAll(counted, "")).find());
    }

    /** Rule 12: but for exceptions, no call makes an object or a row, save the one that sets up a projector. */
    private void onlyNewProjectorsAreMade() {
        for (Map.Entry<String, String> method : bodies.entrySet()) {
            String made = method.getValue().replaceAll("new " + EXCEPTION, "");
            boolean isMaking = method.getKey().equals("projector") || constructors.contains(method.getKey());
            CHECK.due(method.getKey() + " makes something new", made.matches("(?s).*\\bnew\\b.*"),
                    isMaking && !method.getKey().equals("Projector") && !method.getKey().equals("Scene"));
        }
    }
}
