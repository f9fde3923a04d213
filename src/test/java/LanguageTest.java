import java.io.IOException;
import java.nio.file.Files;
import java.nio.file.Path;
import java.util.Set;
import java.util.TreeSet;
import java.util.regex.Matcher;
import java.util.regex.Pattern;

/** The rules of LANGUAGE.md that can be read off the source, told by their numbers. */
public final class LanguageTest {
    private static final Checks c = new Checks();

    private static final Set<String> IMPORTS =
        Set.of("java.util.ArrayList", "java.util.List", "java.util.Arrays", "java.util.Iterator");
    /** A use of the library by the name of its class, with what rule 4 lists of it. */
    private static final Set<String> STATIC_CALLS = Set.of(
        "System.arraycopy", "Arrays.copyOf", "Arrays.copyOfRange", "Arrays.fill", "List.of", "Math.min", "Math.max",
        "Math.abs", "Math.floorDiv", "Math.floorMod", "Integer.compare", "Integer.max", "Integer.min",
        "Integer.bitCount", "Integer.highestOneBit", "Long.compare", "Long.max", "Long.min");
    private static final int LONGEST_METHOD = 60;
    private static final int MOST_PARAMETERS = 7;
    private static final int MOST_CLASSES = 12;

    public static void main(String[] args) throws IOException {
        String source = Files.readString(Path.of("src/main/java/SeriesMarks.java"));
        String code = withoutComments(source);
        words(code);
        imports(code);
        library(code);
        staticFields(code);
        classes(code);
        methods(code);
        c.end();
    }

    /** Lines stay lines, so that the length of a method can be counted. */
    private static String withoutComments(String source) {
        String noBlocks = Pattern.compile("/\\*.*?\\*/", Pattern.DOTALL).matcher(source)
            .replaceAll(m -> "\n".repeat((int) m.group().lines().count() - 1));
        return noBlocks.replaceAll("//[^\n]*", "");
    }

    private static void words(String code) {
        String[] ruledOut = {
            "package", "throw", "throws", "try", "catch", "finally", "synchronized", "assert", "protected", "volatile",
            "transient", "native", "Object", "Thread", "Runtime", "hashCode", "toString", "equals", "var"};
        for (String word : ruledOut) {
            c.holds("rules 1, 4, 6, 13: no " + word, !has(code, "\\b" + word + "\\b"));
        }
        c.holds("rule 2: no lambda, no switch by arrows", !code.contains("->"));
        c.holds("rule 2: no method reference", !code.contains("::"));
        c.holds("rule 4: nothing that ends in Exact", !has(code, "Exact\\s*\\("));
        c.holds("rule 5: no static block", !has(code, "static\\s*\\{"));
        c.holds("rule 9: no loop without a bound", !has(code, "while\\s*\\(\\s*true|for\\s*\\(\\s*;"));
        c.holds("rule 3: texts of characters 0 to 255", code.chars().allMatch(ch -> ch <= 255));
    }

    private static boolean has(String code, String pattern) {
        return Pattern.compile(pattern).matcher(code).find();
    }

    private static void imports(String code) {
        Matcher m = Pattern.compile("import\\s+([^;]+);").matcher(code);
        while (m.find()) {
            c.holds("rule 4: import of " + m.group(1), IMPORTS.contains(m.group(1)));
        }
    }

    private static void library(String code) {
        Matcher m = Pattern.compile("\\b(System|Arrays|List|Math|Integer|Long|String|Character)\\.\\w+").matcher(code);
        Set<String> used = new TreeSet<>();
        while (m.find()) {
            used.add(m.group());
        }
        for (String use : used) {
            c.holds("rule 4: use of " + use, STATIC_CALLS.contains(use));
        }
    }

    private static void staticFields(String code) {
        Matcher m = Pattern.compile("(?m)^\\s*(\\w+ )*static (?!final class|class)[^(\\n]*(=|;)").matcher(code);
        int found = 0;
        while (m.find()) {
            found++;
            c.holds("rule 5: a final constant: " + m.group().trim(), has(m.group(), "static final (int|long|boolean|char|String) "));
        }
        c.holds("rule 5: constants were found", found >= 5);
    }

    private static void classes(String code) {
        Matcher m = Pattern.compile("(?m)^(.*)\\b(class|record|enum|interface) (\\w+)").matcher(code);
        int found = 0;
        while (m.find()) {
            found++;
            boolean isOuter = m.group(3).equals("SeriesMarks");
            c.holds("rule 1: " + m.group(), isOuter
                ? m.group(1).equals("public final ")
                : has(m.group(1), "static") && !has(m.group(1), "public|protected"));
        }
        c.holds("rule 11: " + found + " classes", found >= 1 && found <= MOST_CLASSES);
    }

    private static void methods(String code) {
        String[] lines = code.split("\n", -1);
        Pattern head = Pattern.compile("^( {4}| {8})[\\w<>\\[\\] ]+\\(([^)]*)\\) \\{$");
        int found = 0;
        for (int i = 0; i < lines.length; i++) {
            Matcher m = head.matcher(lines[i]);
            if (!m.matches() || has(lines[i], "^ +(if|for|while|switch|else|do)\\b")) {
                continue;
            }
            found++;
            int end = i;
            while (end < lines.length && !lines[end].equals(m.group(1) + "}")) {
                end++;
            }
            c.holds("rule 11: short enough, " + lines[i].trim(), end - i + 1 <= LONGEST_METHOD);
            c.holds("rule 11: few parameters, " + lines[i].trim(), m.group(2).split(",").length <= MOST_PARAMETERS);
        }
        c.holds("methods were found: " + found, found >= 27);
    }
}
