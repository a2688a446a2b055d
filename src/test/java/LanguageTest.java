import java.nio.file.Files;
import java.nio.file.Path;
import java.util.List;
import java.util.Set;
import java.util.regex.Matcher;
import java.util.regex.Pattern;

/** What of LANGUAGE.md can be told from the program's text alone; the rules' numbers stand in the messages. */
public final class LanguageTest extends Due {
    private static final Set<String> LIBRARY = Set.of("Math.max", "Math.min", "Math.abs", "Math.floorMod", "Math.floorDiv",
        "Integer.bitCount", "Integer.compare", "Integer.numberOfTrailingZeros", "Long.bitCount", "Long.numberOfTrailingZeros",
        "System.arraycopy", "Arrays.fill", "Arrays.copyOf", "Arrays.copyOfRange");
    private static final int LINES_OF_A_METHOD = 60;
    private static final int CLASSES = 12;
    private static final int PARAMETERS = 7;

    public static void main(String[] args) throws Exception {
        String written = Files.readString(Path.of("src/main/java/PathProber.java"));
        check("every sign is 1 to 127", written.chars().filter(c -> c < 1 || c > 127).count(), 0);
        String text = withoutWords(written);
        checkHead(text);
        checkForbidden(text);
        checkLibrary(text);
        checkThrows(text);
        checkMethods(text);
        end();
    }

    /** Comments and constant texts are no program. */
    private static String withoutWords(String written) {
        String plain = written.replaceAll("(?s)/\\*.*?\\*/", " ").replaceAll("//[^\n]*", " ");
        return plain.replaceAll("\"[^\"\n]*\"", "\"\"").replaceAll("'[^'\n]'", "0");
    }

    private static void checkHead(String text) {
        absent("a package", "\\bpackage\\b", text);
        Matcher imports = Pattern.compile("\\bimport\\s+([\\w.*]+)\\s*;").matcher(text);
        while (imports.find()) {
            boolean fine = List.of("java.util.NoSuchElementException", "java.util.Arrays", "java.util.ArrayList",
                "java.util.List").contains(imports.group(1));
            check("rule 4, import " + imports.group(1), fine ? 1 : 0, 1);
        }
        Matcher classes = Pattern.compile("\\b(class|record|enum|interface)\\s+\\w+").matcher(text);
        check("rule 11, too many classes", classes.results().count() > CLASSES ? 1 : 0, 0);
    }

    private static void checkForbidden(String text) {
        absent("rule 2, a lambda", "->", text);
        absent("rule 2, a method reference", "::", text);
        absent("rule 3, a double or a float", "\\b(double|float|Double|Float)\\b", text);
        absent("rule 4, a function that ends in Exact", "\\w+Exact\\s*\\(", text);
        absent("rule 5, a static initialiser", "\\bstatic\\s*\\{", text);
        absent("rule 6, a word that is ruled out", "\\b(finally|synchronized|assert|getMessage|hashCode|toString|equals)\\b", text);
        absent("rule 6, a try or a catch: the program needs none", "\\b(try|catch)\\b", text);
        absent("rule 9, a loop without an end of its own", "\\bwhile\\s*\\(\\s*true\\s*\\)|\\bfor\\s*\\(\\s*;\\s*;", text);
        absent("rule 10, a text joined by +", "\"\"\\s*\\+|\\+\\s*\"\"", text);
        absent("rule 13, a clock, a thread, chance", "\\b(Random|Thread|currentTimeMillis|nanoTime|getenv|getProperty)\\b", text);
    }

    private static void checkLibrary(String text) {
        Matcher uses = Pattern.compile("\\b(Math|Integer|Long|System|Arrays|String|Character|Objects)\\.(\\w+)").matcher(text);
        while (uses.find()) {
            check("rule 4, " + uses.group(), LIBRARY.contains(uses.group()) ? 1 : 0, 1);
        }
    }

    private static void checkThrows(String text) {
        Matcher throwing = Pattern.compile("\\bthrow\\b[^;]*;").matcher(text);
        while (throwing.find()) {
            boolean fine = throwing.group().matches("throw new (NoSuchElementException|IllegalArgumentException)\\(\"\"\\);");
            check("rule 6, " + throwing.group(), fine ? 1 : 0, 1);
        }
    }

    /** A method begins with its head at the end of a line, and ends with the brace that stands as far in. */
    private static void checkMethods(String text) {
        Pattern head = Pattern.compile("^( +)(?!if|for|while|switch|else|return)[\\w\\[\\] ]*?\\b(\\w+)\\(([^()]*)\\)[\\w ,]*\\{$");
        String[] lines = text.split("\n");
        int methods = 0;
        for (int i = 0; i < lines.length; i++) {
            Matcher found = head.matcher(lines[i].stripTrailing());
            if (found.matches()) {
                methods++;
                int last = i;
                while (last < lines.length && !lines[last].equals(found.group(1) + "}")) {
                    last++;
                }
                check("rule 11, " + found.group(2) + " has too many lines", last - i + 1 > LINES_OF_A_METHOD ? 1 : 0, 0);
                int parameters = found.group(3).isBlank() ? 0 : found.group(3).split(",").length;
                check("rule 11, " + found.group(2) + " takes too much", parameters > PARAMETERS ? 1 : 0, 0);
            }
        }
        check("methods were found at all", methods > PathProber.class.getDeclaredMethods().length ? 1 : 0, 1);
    }

    private static void absent(String what, String pattern, String text) {
        Matcher found = Pattern.compile(pattern).matcher(text);
        check(what, found.find() ? 1 : 0, 0);
    }
}
