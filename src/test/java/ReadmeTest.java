import java.io.IOException;
import java.io.UncheckedIOException;
import java.lang.reflect.InvocationTargetException;
import java.lang.reflect.Method;
import java.nio.charset.StandardCharsets;
import java.nio.file.Files;
import java.nio.file.Path;
import java.util.Arrays;
import java.util.List;
import java.util.regex.Matcher;
import java.util.regex.Pattern;
import java.util.stream.Collectors;
import java.util.stream.Stream;

/** What README.md says of the class and of its tests is so: its examples are run line by line. */
public final class ReadmeTest {
    private static final Pattern BLOCK = Pattern.compile("(?s)```java\n(.*?)```");
    private static final Pattern CALL = Pattern.compile("x\\.(\\w+)\\((.*)\\);\\s*// (-?\\w+)");
    private static final Pattern TOLD = Pattern.compile("tell\\(x, (\\d), \"(.*)\"\\);\\s*// (-?\\d+)");

    public static void main(String[] args) throws IOException, IllegalAccessException, InvocationTargetException {
        Path root = Path.of(args.length > 0 ? args[0] : ".");
        String readme = read(root.resolve("README.md"));
        int blocks = 0;
        for (Matcher block = BLOCK.matcher(readme); block.find();) {
            blocks++;
            if (block.group(1).startsWith("static ")) {
                Due.is("the method of README.md is the one below", read(root.resolve("src/test/java/ReadmeTest.java"))
                        .contains(block.group(1).indent(4)), true);
            } else {
                run(block.group(1).split("\n"));
            }
        }
        Due.is("examples of README.md", blocks, 3);
        for (String name : methodsOfTheFace()) {
            Due.is("README.md names " + name, readme.contains("`" + name + "`"), true);
        }
        for (String name : tests(root)) {
            Due.is("README.md names " + name, readme.contains("`" + name + "`"), true);
        }
        Due.end("ReadmeTest");
    }

    private static String read(Path file) {
        try {
            return Files.readString(file, StandardCharsets.UTF_8).replace("\r", "");
        } catch (IOException e) {
            throw new UncheckedIOException(e);
        }
    }

    private static List<String> methodsOfTheFace() {
        return Stream.of(MuleVote.class.getDeclaredMethods()).filter(m -> java.lang.reflect.Modifier.isPublic(m.getModifiers()))
                .map(Method::getName).sorted().collect(Collectors.toList());
    }

    private static List<String> tests(Path root) throws IOException {
        try (Stream<Path> files = Files.list(root.resolve("src/test/java"))) {
            return files.map(f -> f.getFileName().toString()).filter(f -> f.endsWith("Test.java"))
                    .map(f -> f.substring(0, f.length() - 5)).sorted().collect(Collectors.toList());
        }
    }

    private static void run(String[] lines) throws IllegalAccessException, InvocationTargetException {
        Due.is("an example begins with a new object", lines[0].equals("MuleVote x = new MuleVote();"), true);
        MuleVote x = new MuleVote();
        for (int i = 1; i < lines.length; i++) {
            Matcher call = CALL.matcher(lines[i]);
            Matcher told = TOLD.matcher(lines[i]);
            if (told.matches()) {
                Due.is(lines[i], tell(x, Integer.parseInt(told.group(1)), told.group(2)), Long.parseLong(told.group(3)));
            } else if (call.matches()) {
                Due.is(lines[i] + " is as README.md says", answer(x, call.group(1), call.group(2)).equals(call.group(3)), true);
            } else {
                Due.is("a line of README.md that can be run: " + lines[i], false, true);
            }
        }
    }

    private static String answer(MuleVote x, String name, String args) throws IllegalAccessException, InvocationTargetException {
        Object[] given = Arrays.stream(args.split(", ")).filter(a -> !a.isEmpty())
                .map(a -> a.equals("true") || a.equals("false") ? (Object) Boolean.valueOf(a) : Integer.valueOf(a)).toArray();
        for (Method m : MuleVote.class.getDeclaredMethods()) {
            if (m.getName().equals(name) && m.getParameterCount() == given.length) {
                return String.valueOf(m.invoke(x, given));
            }
        }
        return "no such call";
    }

    static int tell(MuleVote x, int k, String text) {
        x.end(0);
        for (int at = 0; at < text.length(); at += 20) {
            int[] fours = new int[5];
            for (int i = 0; i < 20; i++) {
                int sign = at + i < text.length() ? text.charAt(at + i) : ' ';
                fours[i / 4] = fours[i / 4] << 8 | sign;
            }
            x.feed(fours[0], fours[1], fours[2], fours[3], fours[4]);
        }
        x.end(text.length());
        return x.text(k);
    }
}
