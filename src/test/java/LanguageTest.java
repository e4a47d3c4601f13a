import java.io.IOException;
import java.nio.file.Files;
import java.nio.file.Path;
import java.util.ArrayList;
import java.util.List;
import java.util.regex.Matcher;
import java.util.regex.Pattern;

/** Looks at the source for what ../shared/LANGUAGE.md rules out and a look at the text can tell. */
public final class LanguageTest {
    private static final Due DUE = new Due("LanguageTest");
    private static final String FACE = "type leaf expression unit version setType setValue remove unitNode node choose "
        + "rename error typeOf isSameType valueOf size run result logged log total dropped build compiled isFresh";

    public static void main(String[] args) throws IOException {
        Path source = Path.of("src/main/java/MixinUnits.java");
        List<String> lines = Files.readAllLines(source);
        String text = bare(String.join("\n", lines));
        none(text, "->|::", "rule 2: lambdas and method references");
        none(text, "\\b(try|catch|finally|synchronized|assert|instanceof|float|double)\\b", "rules 3 and 6");
        none(text, "\\b(Object|String|Integer|Exception|System\\.(?!arraycopy)|Thread|Random)\\b", "rules 3, 4 and 13");
        none(text, "\\b(equals|hashCode|toString|printStackTrace)\\b", "rule 6");
        none(text, "\\[\\]\\[\\]\\[\\]|Node\\[\\]\\[\\]|Version\\[\\]\\[\\]", "rule 3: dimensions");
        none(text, "\\bwhile \\(true\\)|for \\(;;", "rule 9");
        none(text, "\\bpackage\\b|\\bprotected\\b|\\bstatic \\{", "rules 1 and 5");
        for (String imported : matches(text, "import ([\\w.]+);")) {
            DUE.is("import of " + imported, imported.equals("java.util.ArrayList") || imported.equals("java.util.Arrays"), true);
        }
        for (String called : matches(text, "Exact\\(")) {
            DUE.is("rule 4: " + called, true, false);
        }
        for (String made : matches(text, "throw new (\\w+)\\(")) {
            DUE.is("rule 6: " + made, List.of("IllegalStateException", "IllegalArgumentException",
                "IndexOutOfBoundsException").contains(made), true);
        }
        DUE.is("rule 11: classes", matches(text, "\\bclass \\w+").size() <= 12, true);
        names(text);
        methods(text);
        DUE.end();
    }

    /** The source without its comments and written texts. */
    private static String bare(String text) {
        return text.replaceAll("(?s)/\\*.*?\\*/", "").replaceAll("//[^\n]*", "").replaceAll("\"[^\"\n]*\"", "\"\"");
    }

    private static List<String> matches(String text, String pattern) {
        List<String> found = new ArrayList<>();
        Matcher matcher = Pattern.compile(pattern).matcher(text);
        while (matcher.find()) {
            found.add(matcher.groupCount() > 0 ? matcher.group(1) : matcher.group());
        }
        return found;
    }

    private static void none(String text, String pattern, String rule) {
        List<String> found = matches(text, "(" + pattern + ")");
        DUE.is(rule + " " + found, found.size(), 0);
    }

    /** The members of the class itself are public by the face, or private; and no name of the face is used otherwise. */
    private static void names(String text) {
        List<String> face = new ArrayList<>(List.of(FACE.split(" ")));
        for (String name : matches(text, "\n    public (?!final)[\\w ]*?(\\w+)\\(")) {
            DUE.is("rule 1: public " + name, face.remove(name) || name.equals("MixinUnits"), true);
        }
        DUE.is("rule 1: all of the face is there " + face, face.size(), 0);
        for (String name : matches(text, "\n     +(?:private |static |final )*[\\w\\[\\]]+ (\\w+)\\([^;{]*\\) \\{")) {
            DUE.is("rule 1: " + name, List.of(FACE.split(" ")).contains(name), false);
        }
        for (String member : matches(text, "\n    (?!private |public |[ }])([^\n]+)")) {
            DUE.is("rule 1: a member that is not private: " + member, true, false);
        }
    }

    private static void methods(String text) {
        Matcher head = Pattern.compile("\n( +)(?:private |public |static |final )*(?:[\\w\\[\\]]+ )?(\\w+)\\("
            + "([^;{)]*)\\)(?:\\s+throws [\\w, ]+)? \\{\n")
            .matcher(text);
        while (head.find()) {
            if (!List.of("if", "for", "while", "switch").contains(head.group(2))) {
                int end = text.indexOf("\n" + head.group(1) + "}", head.end() - 1);
                long length = text.substring(head.end(), Math.max(head.end(), end)).lines().count();
                DUE.is("rule 11: lines of " + head.group(2) + ": " + length, length <= 60, true);
                DUE.is("rule 11: parameters of " + head.group(2), head.group(3).split(",").length <= 7, true);
            }
        }
    }
}
