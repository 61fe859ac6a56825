import java.io.IOException;
import java.nio.file.Files;
import java.nio.file.Path;
import java.util.regex.Matcher;
import java.util.regex.Pattern;

/** The rules of LANGUAGE.md that can be seen in the source's letters. */
final class LanguageTest {
    private static final Due DUE = new Due("LanguageTest");
    private static final String[] WORDS = {"throw", "throws", "try", "catch", "synchronized", "assert", "package",
        "import", "volatile", "native", "var", "yield", "double", "float", "Object", "System", "Exact", "hashCode",
        "toString", "Random", "Thread"};

    public static void main(String[] args) throws IOException {
        String source = Files.readString(Path.of("src/main/java/ThreeDays.java"));
        String bare = withoutTexts(source);
        for (String word : WORDS) {
            DUE.due("language 4, 6: " + word, Pattern.compile("\\b" + word + "\\b").matcher(bare).find(), false);
        }
        DUE.due("language 2: lambdas", bare.contains("->"), false);
        DUE.due("language 2: method references", bare.contains("::"), false);
        DUE.due("language 5: static blocks", Pattern.compile("static\\s*\\{").matcher(bare).find(), false);
        DUE.due("language 10: joined texts", Pattern.compile("\"\\s*\\+|\\+\\s*\"").matcher(source).find(), false);
        DUE.due("ascii alone", source.chars().allMatch(c -> c == '\n' || c >= ' ' && c < 127), true);
        methodLengths(bare);
        DUE.finish();
    }

    private static String withoutTexts(String source) {
        return source.replaceAll("(?s)/\\*.*?\\*/", "").replaceAll("//[^\n]*", "").replaceAll("\"[^\"\n]*\"", "\"\"");
    }

    private static void methodLengths(String bare) {
        Matcher heads = Pattern.compile("(?m)^( +)[^\\n=;]*\\)\\s*\\{\\n").matcher(bare);
        while (heads.find()) {
            int end = bare.indexOf("\n" + heads.group(1) + "}", heads.end() - 1);
            long lines = bare.substring(heads.end(), Math.max(heads.end(), end)).lines().count();
            DUE.due("language 11: length of " + heads.group().trim(), lines <= 60, true);
        }
    }
}
