import java.io.IOException;
import java.nio.file.Files;
import java.nio.file.Path;
import java.util.List;
import java.util.regex.Matcher;
import java.util.regex.Pattern;

/** What a scan of the source can see of LANGUAGE.md. */
public final class LanguageTest {
    private static final String[] FORBIDDEN = {
        "\\bthrow\\b", "\\bthrows\\b", "\\btry\\b", "\\bcatch\\b", "\\bfinally\\b", "\\bsynchronized\\b", "\\bassert\\b",
        "->", "::", "\\w*Exact\\b", "\\bSystem\\.(?!arraycopy\\b)", "\\bThread\\b", "\\bRandom\\b", "\\bObject\\b",
        "\\bhashCode\\b", "\\btoString\\b", "\\bequals\\b", "\\bprotected\\b", "\\bvolatile\\b", "\\bstatic\\s*\\{",
        "\\bNaN\\b", "^package\\b", "\\bwhile \\(true\\)", "for \\(;;\\)", "\\bMap\\b", "\\bSet\\b", "\\bOptional\\b",
        "\\bvalues\\(\\)", "\\bnew \\w+\\([^)]*\\)\\s*\\{",
    };

    public static void main(String[] args) throws IOException {
        List<String> lines = Files.readAllLines(Path.of("src/main/java/TwoSeas.java"));
        String code = withoutTexts(String.join("\n", lines));
        for (String word : FORBIDDEN) {
            Matcher found = Pattern.compile(word, Pattern.MULTILINE).matcher(code);
            Check.holds("no " + word, !found.find());
        }
        Matcher imports = Pattern.compile("^import (.*);$", Pattern.MULTILINE).matcher(code);
        while (imports.find()) {
            Check.holds("import of " + imports.group(1), imports.group(1).matches("java\\.util\\.(ArrayList|List|Arrays)"));
        }
        Check.holds("twelve classes at most", count(code, "\\b(class|interface|enum|record) \\w+") <= 12);
        Check.holds("characters 1 to 127", String.join("", lines).chars().allMatch(c -> c > 0 && c < 128));
        methodsAreShort(code);
        Check.end();
    }

    private static String withoutTexts(String source) {
        return source.replaceAll("(?s)/\\*.*?\\*/", "").replaceAll("//[^\n]*", "")
                .replaceAll("\"[^\"\n]*\"", "\"\"").replaceAll("'[^'\n]'", "' '");
    }

    private static int count(String code, String word) {
        int n = 0;
        for (Matcher found = Pattern.compile(word).matcher(code); found.find();) {
            n++;
        }
        return n;
    }

    /** A method is what stands between a line that opens it and the brace of the same depth that ends it. */
    private static void methodsAreShort(String code) {
        String[] lines = code.split("\n", -1);
        Pattern head = Pattern.compile("^( {4}| {8})(?=\\S)(?!for|if|while|switch|do|else|return)[\\w<>\\[\\] ]+\\(([^)]*)\\) \\{$");
        for (int i = 0; i < lines.length; i++) {
            Matcher found = head.matcher(lines[i]);
            if (found.find()) {
                int end = i;
                while (end < lines.length && !lines[end].equals(found.group(1) + "}")) {
                    end++;
                }
                Check.holds("at most sixty lines: " + lines[i], end - i < 60);
                Check.holds("at most seven parameters: " + lines[i], found.group(2).split(",").length <= 7);
            }
        }
    }
}
