import java.io.IOException;
import java.nio.charset.StandardCharsets;
import java.nio.file.Files;
import java.nio.file.Path;
import java.util.List;
import java.util.regex.Matcher;
import java.util.regex.Pattern;

/** What of ../shared/LANGUAGE.md can be seen in the text of the program by looking for words and signs. */
final class LanguageTest {
    private static final List<String> BARRED = List.of(
            "->", "::", "\\bassert\\b", "\\bfinally\\b", "\\bsynchronized\\b", "\\bvolatile\\b", "\\bcatch\\b",
            "\\binterface\\b.*\\bsealed\\b", "\\bvar\\b", "\\bvarargs\\b", "\\.\\.\\.", "Exact\\(", "\\bnative\\b",
            "\\bprotected\\b", "\"\\s*\\+", "\\+\\s*\"", "\\bMap\\b", "\\bSet\\b", "\\bThread\\b",
            "\\bclass\\b.*Exception", "\\bObject\\b", "System\\.(?!arraycopy)", "Integer\\.valueOf", "\\bequals\\b",
            "\\bhashCode\\b", "\\btoString\\b", "^package\\b", "static\\s*\\{");
    private static final List<String> IMPORTS = List.of("java.util.Arrays", "java.util.NoSuchElementException");

    private LanguageTest() {
    }

    static void run(String path) {
        String text;
        try {
            text = Files.readString(Path.of(path), StandardCharsets.ISO_8859_1);
        } catch (IOException e) {
            Check.due("the program can be read", path, e.toString());
            return;
        }
        Check.due("plain signs only", true, text.chars().allMatch(c -> c == '\n' || c >= 32 && c < 127));
        String code = withoutComments(text);
        for (String barred : BARRED) {
            Matcher found = Pattern.compile(barred, Pattern.MULTILINE).matcher(code);
            Check.due("no " + barred, "", found.find() ? found.group() : "");
        }
        Matcher imports = Pattern.compile("^import (.*);", Pattern.MULTILINE).matcher(code);
        while (imports.find()) {
            Check.due("import " + imports.group(1), true, IMPORTS.contains(imports.group(1)));
        }
        Matcher statics = Pattern.compile("^ *(private )?static (?!final)[^(]*[=;]", Pattern.MULTILINE).matcher(code);
        Check.due("static fields are final", "", statics.find() ? statics.group() : "");
        sizes(code);
    }

    private static String withoutComments(String text) {
        return text.replaceAll("(?s)/\\*.*?\\*/", "").replaceAll("//[^\n]*", "");
    }

    private static void sizes(String code) {
        int start = 0;
        String[] lines = code.split("\n");
        String name = "";
        for (int i = 0; i < lines.length; i++) {
            if (lines[i].matches("( {4}| {8})[a-z].*\\(.*") && !lines[i].contains("=") && !lines[i].endsWith(";")) {
                start = i;
                name = lines[i].trim();
            }
            if (lines[i].matches("( {4}| {8})\\}") && !name.isEmpty()) {
                Check.due("lines of " + name, true, i - start < 60);
                Check.due("parameters of " + name, true, name.split(",").length <= 7);
                name = "";
            }
        }
        int classes = code.split("\\bclass \\w+ \\{", -1).length - 1;
        Check.due("number of classes", true, classes > 0 && classes <= 12);
    }
}
