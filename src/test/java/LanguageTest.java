import java.io.IOException;
import java.nio.file.Files;
import java.nio.file.Path;
import java.util.ArrayList;
import java.util.List;
import java.util.Set;
import java.util.TreeSet;
import java.util.regex.Matcher;
import java.util.regex.Pattern;

/** Looks after the rules of LANGUAGE.md that can be seen in the text of the program. */
final class LanguageTest {
    private static final Pattern HEAD = Pattern.compile(
            "^ {4,8}(public |private )(static )?(final )?[A-Za-z\\[\\]<>]+ ?([A-Za-z0-9]*)\\(([^;]*)$");

    public static void main(String[] args) throws IOException {
        List<String> rows = Files.readAllLines(Path.of("src/main/java/Shrinkforge.java"));
        String bare = withoutTexts(rows);
        for (String word : new String[] {"->", "::", "catch", "try ", "finally", "synchronized", "assert", "instanceof",
            "protected", "package ", "Object ", "hashCode", "interface ", "enum ", "record ", "var ", "float", "double",
            "while (true)", "new Thread", "System.out", "System.nano", "Math.random", "Exact("}) {
            Check.isTrue("no " + word, !bare.contains(word));
        }
        Check.isTrue("no joining by +", !bare.contains("\" +") && !bare.contains("+ \""));
        heads(rows);
        lengths(rows);
        classes(bare);
        for (int at = 0; at < rows.size(); at++) {
            Check.isTrue("row " + (at + 1) + " is short", rows.get(at).length() <= 120);
            String row = rows.get(at).trim();
            Check.isTrue("nothing is imported", !row.startsWith("import "));
            if (row.contains("throw ")) {
                Check.isTrue("throw: " + row, row.matches(
                        "throw new (IllegalState|IllegalArgument|IndexOutOfBounds)Exception\\(\"[^\"]*\"\\);"));
            }
        }
        Check.finish("LanguageTest");
    }

    private static String withoutTexts(List<String> rows) {
        StringBuilder text = new StringBuilder();
        for (String row : rows) {
            String trimmed = row.trim();
            if (!trimmed.startsWith("/**") && !trimmed.startsWith("*") && !trimmed.startsWith("//")) {
                text.append(row.replaceAll("\"[^\"]*\"", "\"\"")).append('\n');
            }
        }
        return text.toString();
    }

    /** No private method bears the name of a public one; at most seven parameters. */
    private static void heads(List<String> rows) {
        Set<String> faces = new TreeSet<>();
        List<String> others = new ArrayList<>();
        for (int at = 0; at < rows.size(); at++) {
            Matcher matcher = HEAD.matcher(rows.get(at));
            if (matcher.matches() && !matcher.group(4).isEmpty() && !rows.get(at).contains("=")) {
                if (matcher.group(1).startsWith("public")) {
                    faces.add(matcher.group(4));
                } else {
                    others.add(matcher.group(4));
                }
                int many = matcher.group(5).split(",").length;
                Check.isTrue("parameters of " + matcher.group(4), many <= 7);
            }
        }
        Check.same("methods of the face", faces.size(), 47);
        for (String other : others) {
            Check.isTrue("name of the face: " + other, !faces.contains(other));
        }
        Check.isTrue("heads were found", others.size() > 150);
    }

    /** Some sixty lines a method. */
    private static void lengths(List<String> rows) {
        for (int at = 0; at < rows.size(); at++) {
            String row = rows.get(at);
            int indent = row.length() - row.stripLeading().length();
            boolean isHead = (indent == 4 || indent == 8) && row.contains("(") && !row.contains(";")
                    && (row.contains("private ") || row.contains("public "));
            if (isHead) {
                int end = at;
                while (!rows.get(end).equals(" ".repeat(indent) + "}")) {
                    end++;
                }
                Check.isTrue("length of " + row.trim(), end - at < 60);
            }
        }
    }

    /** Some twelve classes, some twenty fields each. */
    private static void classes(String bare) {
        String[] parts = bare.split("class ");
        Check.isTrue("classes", parts.length - 1 <= 12);
        for (String part : parts) {
            int fields = 0;
            for (String row : part.split("\n")) {
                if (row.matches(" +private (final )?[A-Za-z\\[\\]]+ [A-Za-z0-9]+;")) {
                    fields++;
                }
            }
            Check.isTrue("fields: " + fields, fields <= 20);
        }
    }
}
