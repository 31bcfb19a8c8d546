import java.io.IOException;
import java.nio.file.Files;
import java.nio.file.Path;
import java.util.regex.Matcher;
import java.util.regex.Pattern;

/** Rules of LANGUAGE.md that the text of the class shows; its path comes as the property "source". */
final class SourceTest {
    private static final String[] RULED_OUT = {
        "->", "::", "\\btry\\b", "\\bcatch\\b", "\\bfinally\\b", "\\bsynchronized\\b", "\\bassert\\b",
        "\\bnative\\b", "\\bstatic\\s*\\{", "\\bpackage\\b", "\\bprotected\\b", "\\bMath\\.\\w*Exact\\b", "\\bSystem\\.",
        "\\bRandom\\b", "\\bThread\\b", "\\bObject\\b", "\\bMap\\b", "\\bStream\\b", "\\bfor \\(\\w+ \\w+ :",
        "\\bstatic (?!final\\b)\\w+(\\[\\])* \\w+\\s*[=;]",
    };

    private SourceTest() {
    }

    static void run() throws IOException {
        String text = Files.readString(Path.of(System.getProperty("source")));
        String code = text.replaceAll("(?s)/\\*.*?\\*/", "").replaceAll("//[^\n]*", "");
        for (String rule : RULED_OUT) {
            Matcher found = Pattern.compile(rule).matcher(code);
            Check.same("LANGUAGE.md rules out", found.find() ? found.group() : "", "");
        }
        Matcher imports = Pattern.compile("(?m)^import (.*);").matcher(code);
        while (imports.find()) {
            Check.same("import", imports.group(1), "java.util.ArrayList");
        }
        Check.isTrue("signs 1 to 127", text.chars().allMatch(c -> c > 0 && c < 128));
        methodsAreShort(code);
    }

    /** A method begins behind 4 or 8 blanks and ends with a brace behind the same. */
    private static void methodsAreShort(String code) {
        Matcher methods = Pattern.compile("(?ms)^( {4}| {8})[a-zA-Z][^;={}]*\\([^;{}]*\\{\n(.*?)^\\1\\}").matcher(code);
        int count = 0;
        while (methods.find()) {
            count++;
            long lines = methods.group(2).lines().count();
            Check.isTrue("a method of " + lines + " lines", lines <= 60);
        }
        Check.isTrue("methods were found", count >= 28);
    }
}
