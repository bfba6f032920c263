import java.io.IOException;
import java.nio.charset.StandardCharsets;
import java.nio.file.Files;
import java.nio.file.Path;
import java.util.HashSet;
import java.util.Set;
import java.util.regex.Matcher;
import java.util.regex.Pattern;

/** What of ../shared/LANGUAGE.md can be seen in the words of the program's source. */
public final class LanguageTest {
    private static final String[] BARRED = {
        "\\b(throw|throws|try|catch|finally|synchronized|assert|native|volatile|transient|yield|sealed|permits|non-sealed)\\b",
        "->", "::", "\\bprotected\\b", "\\b(hashCode|toString|NaN|MAX_VALUE|MIN_VALUE)\\b", "\\b\\w+Exact\\b",
        "\\bstatic\\s*\\{", "\\binstanceof\\b", "\\bpackage\\b", "@", "\\bSystem\\.(?!arraycopy\\()", "\\bvar\\b", "\\bdouble\\b", "\\bfloat\\b",
        "\\bArrays\\.(?!fill\\(|copyOf\\(|copyOfRange\\()", "\\bMath\\.(?!max\\(|min\\(|abs\\(|floorDiv\\(|floorMod\\()",
        "\\bInteger\\.(?!bitCount\\(|compare\\()", "\"\\s*\\+|\\+\\s*\"", "\\bstatic (?!final\\b|boolean\\b|int\\b|void\\b)[^;{(]*[;=]"};

    public static void main(String[] args) throws IOException {
        Path root = Path.of(args.length > 0 ? args[0] : ".");
        String whole = Files.readString(root.resolve("src/main/java/MuleVote.java"), StandardCharsets.ISO_8859_1);
        Due.is("signs are 1 to 127", whole.chars().allMatch(c -> c >= 1 && c <= 127), true);
        String code = whole.replaceAll("(?s)/\\*.*?\\*/", "").replaceAll("//[^\n]*", "");
        for (String barred : BARRED) {
            Matcher m = Pattern.compile(barred).matcher(code);
            Due.is("nothing like " + barred + (m.find() ? " but " + m.group() : ""), m.reset().find(), false);
        }
        for (Matcher m = Pattern.compile("(?m)^import .*$").matcher(code); m.find();) {
            Due.is(m.group(), m.group().trim().equals("import java.util.Arrays;"), true);
        }
        Due.is("some twelve classes", Pattern.compile("\\b(class|enum|interface|record) \\w+").matcher(code).results().count() <= 13, true);
        namesOfTheFace(code);
        lengths(code);
        Due.end("LanguageTest");
    }

    private static void namesOfTheFace(String code) {
        Set<String> face = new HashSet<>();
        for (Matcher m = Pattern.compile("public (?:int|boolean) (\\w+)\\(").matcher(code); m.find();) {
            Due.is(m.group(1) + " is there once", face.add(m.group(1)), true);
        }
        Due.is("methods of the face", face.size(), 35);
        for (Matcher m = Pattern.compile("(?m)^ +(?:private |static |final )*[\\w\\[\\]]+ (\\w+)\\([^;{]*\\{").matcher(code); m.find();) {
            if (!m.group().contains("public ") && !m.group().matches("(?s)\\s*(else|return|new) .*")) {
                Due.is("a method within bears no name of the face: " + m.group(1), face.contains(m.group(1)), false);
            }
        }
    }

    private static void lengths(String code) {
        String[] lines = code.split("\n");
        int begun = 0;
        String name = "";
        for (int i = 0; i < lines.length; i++) {
            if (lines[i].matches(" {4}( {4})?\\S.*\\) \\{")) {
                begun = i;
                name = lines[i].trim();
            } else if (lines[i].matches(" {4}( {4})?\\}") && !name.isEmpty()) {
                Due.is("some sixty lines at most: " + name, i - begun < 60, true);
                name = "";
            }
        }
    }
}
