import java.io.IOException;
import java.nio.file.Files;
import java.nio.file.Path;
import java.util.ArrayList;
import java.util.LinkedHashMap;
import java.util.List;
import java.util.Map;
import java.util.Set;
import java.util.TreeSet;
import java.util.regex.Matcher;
import java.util.regex.Pattern;

/** Rules of LANGUAGE.md that the text of the class shows; its path comes as the property "source". */
final class SourceTest {
    private static final String[] RULED_OUT = {
        "->", "::", "\\btry\\b", "\\bcatch\\b", "\\bfinally\\b", "\\bsynchronized\\b", "\\bassert\\b",
        "\\bnative\\b", "\\bstatic\\s*\\{", "\\bpackage\\b", "\\bprotected\\b", "\\bMath\\.\\w*Exact\\b", "\\bSystem\\.",
        "\\bRandom\\b", "\\bThread\\b", "\\bObject\\b", "\\bMap\\b", "\\bStream\\b", "\\bfor \\(\\w+ \\w+ :",
        "\\bstatic (?!final\\b)\\w+(\\[\\])* \\w+\\s*[=;]", "\"\\s*\\+", "\\+\\s*\"",
    };
    private static final Pattern METHOD =
            Pattern.compile("(?ms)^( {4}| {8})[a-zA-Z][^;={}(]*?(\\w+)\\(([^;{}]*)\\{\n(.*?)^\\1\\}");
    private static final Set<String> LIBRARY = Set.of("add", "get", "remove", "size", "append", "charAt", "length");
    private static final int DEEPEST = 8;

    private static final String[] HEADINGS = {
        "tenders and bids: addTender addLot paper bid withdraw pass today isIn score ranked",
        "awards: award awardOf winner isVoid isFinal winnerAnew line lineChar",
        "complaints: complain rule appeal stateOf",
        "contracts and deposits: sign call running owes held lost",
    };

    private final String text;
    private final String code;
    private final Map<String, String> bodies = new LinkedHashMap<>();

    private SourceTest(String text) {
        this.text = text;
        this.code = text.replaceAll("(?s)/\\*.*?\\*/", "").replaceAll("//[^\n]*", "");
        Matcher methods = METHOD.matcher(code);
        while (methods.find()) {
            bodies.merge(methods.group(2), methods.group(4), String::concat);
        }
    }

    static void run() throws IOException {
        SourceTest test = new SourceTest(Files.readString(Path.of(System.getProperty("source"))));
        test.nothingRuledOut();
        test.headingsOfTheFace();
        test.libraryCalls();
        test.thrownByTheClass();
        test.methodsAreShort();
        test.callsAreNotDeep();
    }

    private void nothingRuledOut() {
        for (String rule : RULED_OUT) {
            Matcher found = Pattern.compile(rule).matcher(code);
            Check.same("LANGUAGE.md rules out", found.find() ? found.group() : "", "");
        }
        Check.isTrue("rule 4: signs 1 to 127", text.chars().allMatch(c -> c > 0 && c < 128));
    }

    /** Terms: "Ahead of the calls `addTender`, [..] the interface says: ---- tenders and bids." */
    private void headingsOfTheFace() {
        Matcher found = Pattern.compile("(?m)^    (?:// ---- (.*)|public \\S+ (\\w+)\\()").matcher(text);
        List<String> got = new ArrayList<>();
        while (found.find()) {
            if (found.group(1) != null) {
                got.add(found.group(1) + ":");
            } else if (!got.isEmpty()) {
                got.add(got.remove(got.size() - 1) + " " + found.group(2));
            }
        }
        Check.same("headings", got.subList(0, Math.min(got.size(), HEADINGS.length)), List.of(HEADINGS));
    }

    /** Rule 4: a call behind a dot is one of the class's own, or of the part of the library that it lists. */
    private void libraryCalls() {
        Matcher imports = Pattern.compile("(?m)^import (.*);").matcher(code);
        while (imports.find()) {
            Check.same("rule 4: import", imports.group(1), "java.util.ArrayList");
        }
        TreeSet<String> called = new TreeSet<>();
        Matcher calls = Pattern.compile("\\.(\\w+)\\(").matcher(code);
        while (calls.find()) {
            called.add(calls.group(1));
        }
        called.removeAll(bodies.keySet());
        called.removeAll(LIBRARY);
        Check.same("rule 4: other calls", called.toString(), "[]");
    }

    /** Rule 6: the document names three exceptions; a constructor throws none. */
    private void thrownByTheClass() {
        Pattern due = Pattern.compile("throw new (IndexOutOfBounds|IllegalArgument|IllegalState)Exception\\(\\);");
        Matcher thrown = Pattern.compile("\\bthrow\\b[^;]*;").matcher(code);
        int count = 0;
        while (thrown.find()) {
            count++;
            Check.isTrue("rule 6: " + thrown.group(), due.matcher(thrown.group()).matches());
        }
        Check.isTrue("rule 6: throws were found", count >= 20);
        for (Map.Entry<String, String> method : bodies.entrySet()) {
            if (Character.isUpperCase(method.getKey().charAt(0))) {
                Check.same("rule 6: a throw in a constructor", method.getValue().contains("throw"), false);
            }
        }
    }

    /** Rule 11: some sixty lines. A method begins behind 4 or 8 blanks and ends with a brace behind the same. */
    private void methodsAreShort() {
        Matcher methods = METHOD.matcher(code);
        int count = 0;
        while (methods.find()) {
            count++;
            long lines = methods.group(4).lines().count();
            Check.isTrue("rule 11: " + methods.group(2) + " has " + lines + " lines", lines <= 60);
        }
        Check.isTrue("rule 11: methods were found", count >= 60);
    }

    /** Rules 8 and 11: no method calls itself, and calls go at most eight deep. */
    private void callsAreNotDeep() {
        for (String name : bodies.keySet()) {
            int depth = depthOf(name, 0);
            Check.isTrue("rule 11: " + name + " goes " + depth + " deep", depth <= DEEPEST);
        }
    }

    private int depthOf(String name, int above) {
        if (above > DEEPEST) {
            return 1;
        }
        int deepest = 0;
        Matcher calls = Pattern.compile("\\b(\\w+)\\(").matcher(bodies.get(name));
        while (calls.find()) {
            if (bodies.containsKey(calls.group(1))) {
                deepest = Math.max(deepest, depthOf(calls.group(1), above + 1));
            }
        }
        return 1 + deepest;
    }
}
