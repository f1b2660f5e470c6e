import java.io.IOException;
import java.nio.file.Files;
import java.nio.file.Path;
import java.util.List;
import java.util.Set;
import java.util.regex.Matcher;
import java.util.regex.Pattern;

/** The rules of LANGUAGE.md that can be seen in the text of the class. */
public final class LanguageTest {
    private static final Check CHECK = new Check("LanguageTest");
    private static final String MADE = "\\bnew\\s+(\\w+)\\s*[(\\[]";
    private static final Set<String> MAY_BE_MADE = Set.of("int", "boolean", "char", "Row", "Text", "StringBuilder",
            "IndexOutOfBoundsException", "IllegalArgumentException", "IllegalStateException");
    private static final List<String> RULED_OUT = List.of("\\bimport\\b", "\\bpackage\\b", "\\btry\\b", "\\bcatch\\b",
            "\\bfinally\\b", "->", "::", "\\bstatic\\s*\\{", "\\bsynchronized\\b", "\\bassert\\b", "\\bnative\\b",
            "\\bvolatile\\b", "\\btransient\\b", "\\bprotected\\b", "\\b(double|float)\\b", "\\bObject\\b",
            "\\b(System|Arrays|Math|Integer|Long|Byte|Short|Character|Boolean|Thread|Runtime|Class)\\b",
            "\\bstatic\\s+(?!final\\b)(?!class\\b)[\\w\\[\\]]+\\s+\\w+\\s*[=;]", "\\.(equals|hashCode|getClass)\\(",
            "\\bthrow\\s+(?!new\\b)", "\"\\s*\\+", "\\+\\s*\"");

    public static void main(String[] args) throws IOException {
        String source = Files.readString(Path.of("src/main/java/Shortnumbers.java"));
        CHECK.due("signs are ASCII", source.chars().allMatch(sign -> sign < 128), true);
        String code = source.replaceAll("(?s)/\\*.*?\\*/", "").replaceAll("//[^\n]*", "");
        for (String pattern : RULED_OUT) {
            Matcher found = Pattern.compile(pattern).matcher(code);
            CHECK.due("found by " + pattern, found.find() ? found.group() : "", "");
        }
        Matcher made = Pattern.compile(MADE).matcher(code);
        while (made.find()) {
            CHECK.due(made.group() + " may be made", MAY_BE_MADE.contains(made.group(1)), true);
        }
        methods(code);
        CHECK.end();
    }

    /** At most sixty lines and seven parameters a method; a constructor throws nothing. */
    private static void methods(String code) {
        Matcher method = Pattern.compile("(?ms)^( {4}| {8})(?! )[\\w\\[\\] ]*?(\\w+)\\(([^)]*)\\)[^;{]*\\{$(.*?)^\\1\\}$")
                .matcher(code);
        int count = 0;
        while (method.find()) {
            count++;
            String name = method.group(2);
            CHECK.due(name + " is short", method.group(4).split("\n").length <= 60, true);
            CHECK.due(name + " takes few", method.group(3).split(",").length <= 7, true);
            if (Character.isUpperCase(name.charAt(0))) {
                CHECK.due(name + " throws", method.group(4).contains("throw"), false);
            }
        }
        CHECK.due("methods were found", count > 60, true);
    }
}
