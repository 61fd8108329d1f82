import java.io.IOException;
import java.nio.file.Files;
import java.nio.file.Path;
import java.util.List;
import java.util.regex.Matcher;
import java.util.regex.Pattern;

/** The rules of LANGUAGE.md that can be seen in the text of the program. */
public final class LanguageTest {
    private static final Path PROGRAM = Path.of("src/main/java/TypeHouse.java");

    public static void main(String[] args) throws IOException {
        List<String> lines = Files.readAllLines(PROGRAM);
        String code = String.join("\n", lines).replaceAll("/\\*(.|\\n)*?\\*/", "").replaceAll("//[^\\n]*", "")
            .replaceAll("\"(\\\\.|[^\"\\\\])*\"", "\"\"");
        words(code);
        face(code);
        methods(lines);
        House.close();
    }

    private static int times(String code, String pattern) {
        Matcher m = Pattern.compile(pattern).matcher(code);
        int n = 0;
        while (m.find()) {
            n++;
        }
        return n;
    }

    private static void words(String code) {
        String[] forbidden = {"->", "::", "\\bfinally\\b", "\\bsynchronized\\b", "\\bassert\\b", "\\bstatic \\{",
            "\\bpackage\\b", "\\bdouble\\b", "\\bfloat\\b", "Exact\\(", "getMessage", "System\\.(?!arraycopy)",
            "\\bThread\\b", "\\bRandom\\b", "hashCode", "toString", "catch \\(Exception", "catch \\(Throwable"};
        for (String word : forbidden) {
            House.due("in the program: " + word, times(code, word), 0);
        }
        House.due("imports", times(code, "(?m)^import "), 1);
        House.due("the one import", times(code, "(?m)^import java\\.util\\.Arrays;$"), 1);
        House.due("classes inside at most eleven", times(code, "\\bclass \\w+ \\{") <= 12 ? 1 : 0, 1);
        House.due("classes inside are static and final", times(code, "(?<!private static final )class (?!TypeHouse)"), 0);
        House.due("static fields are final", times(code, "private static (?!final)[\\w\\[\\]]+ \\w+( =|;)"), 0);
    }

    private static void face(String code) {
        House.due("public members", times(code, "(?m)^    public "), 9);
        House.due("members that are neither public nor private", times(code, "(?m)^    (?!public|private|\\}| )\\S"), 0);
        House.due("members of classes inside are private",
            times(code, "(?m)^        (?!private|\\}| |return|if|for|int|long|throw|wind|checkEnd|tape|state|file|setter|try|Fonts"
                + "|Boxes|new|\\.|row|this|slots|FontFile|\"|boolean)\\S"), 0);
        for (String name : new String[] {"feed", "fuel", "end", "clear", "size", "out", "about", "count"}) {
            House.due("methods named " + name, times(code, "(private|public)( static)? [\\w\\[\\]]+ " + name + "\\("), 1);
        }
    }

    private static void methods(List<String> lines) {
        Pattern head = Pattern.compile("^( {4}| {8})(private|public) [^=;]*\\(([^)]*)\\)( throws \\w+)? \\{$");
        int begun = -1;
        String indent = "";
        for (int i = 0; i < lines.size(); i++) {
            Matcher m = head.matcher(lines.get(i));
            if (m.matches()) {
                begun = i;
                indent = m.group(1);
                House.due(lines.get(i) + " has at most seven parameters", m.group(3).split(",").length <= 7 ? 1 : 0, 1);
            }
            if (begun >= 0 && lines.get(i).equals(indent + "}")) {
                House.due(lines.get(begun) + " has at most sixty lines", i - begun < 60 ? 1 : 0, 1);
                begun = -1;
            }
        }
    }
}
