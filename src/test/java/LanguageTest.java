import java.io.IOException;
import java.nio.file.Files;
import java.nio.file.Path;
import java.util.List;
import java.util.regex.Matcher;
import java.util.regex.Pattern;

/** Rules of LANGUAGE.md that can be seen from the text of the class. */
public final class LanguageTest {
    private static final String[] RULED_OUT = {
        "->", "::", "\\bassert\\b", "\\bsynchronized\\b", "\\bfinally\\b", "\\btry\\b", "\\bcatch\\b", "\\bvar\\b",
        "\\bSystem\\.(?!arraycopy)", "\\bThread\\b", "\\bObject\\b", "\\bhashCode\\b", "\\btoString\\b",
        "\\bequals\\b", "Exact\\b", "\\bObjects\\b", "\\bwhile \\(true\\)", "\\bfor \\(;;\\)", "\"\\s*\\+",
        "\\+\\s*\"", "\\bprotected\\b", "\\bpublic static\\b", "\\bpackage\\b", "[^\\x00-\\x7f]"};

    public static void main(String[] args) throws IOException {
        Path source = Path.of(System.getProperty("formatseer.source", "src/main/java/Formatseer.java"));
        String text = Files.readString(source);
        String code = text.replaceAll("(?s)/\\*.*?\\*/", "").replaceAll("//[^\n]*", "");
        for (String pattern : RULED_OUT) {
            Matcher matcher = Pattern.compile(pattern).matcher(code);
            Check.due("ruled out: " + pattern, false, matcher::find);
        }
        Matcher imports = Pattern.compile("import ([^;]*);").matcher(code);
        while (imports.find()) {
            String name = imports.group(1);
            Check.due("import", "java.util.NoSuchElementException", () -> name);
        }
        Matcher thrown = Pattern.compile("throw ([^;]*);").matcher(code);
        while (thrown.find()) {
            String one = thrown.group(1);
            Check.due("a written text: " + one, true, () -> one.matches("new [A-Za-z]+Exception\\(\"[^\"]*\"\\)"));
        }
        lengthsOfMethods(List.of(code.split("\n")));
        Check.end();
    }

    private static void lengthsOfMethods(List<String> lines) {
        int begin = -1;
        for (int line = 0; line < lines.size(); line++) {
            String one = lines.get(line);
            if (one.matches("( {4}| {8})[^ }].*\\{") && !one.contains("class")) {
                begin = line;
            }
            if (one.matches("( {4}| {8})\\}") && begin >= 0) {
                int length = line - begin;
                String name = lines.get(begin).trim();
                Check.due("some sixty lines: " + name, true, () -> length <= 60);
                begin = -1;
            }
        }
    }
}
