import java.io.IOException;
import java.lang.reflect.Method;
import java.lang.reflect.Modifier;
import java.nio.file.Files;
import java.nio.file.Path;
import java.util.List;
import java.util.TreeSet;
import java.util.regex.Matcher;
import java.util.regex.Pattern;
import java.util.stream.Collectors;
import java.util.stream.Stream;

/** What README.md tells: each answer of its example, each call of the face, each test of the project. */
public final class ReadmeTest extends PartyTest {
    private static final Pattern TEXT = Pattern.compile("for \\(char c : \"([^\"]*)\"\\.toCharArray\\(\\)\\) \\{");
    private static final Pattern CALL = Pattern.compile("x\\.(\\w+)\\(([^)]*)\\); *// (-?\\d+): .*");

    public static void main(String[] args) throws Exception {
        List<String> lines = Files.readAllLines(Path.of("README.md"));
        example(lines);
        namesEachCall(lines);
        namesEachTest(lines);
        end("README.md tells what is so");
    }

    private static void example(List<String> lines) throws ReflectiveOperationException {
        GrangeParty x = new GrangeParty();
        int told = 0;
        for (String line : lines) {
            Matcher text = TEXT.matcher(line);
            if (text.matches()) {
                due("the text of the example", write(x, text.group(1)), text.group(1).length());
            }
            Matcher call = CALL.matcher(line);
            if (call.matches()) {
                told++;
                due("README.md: " + line, answer(x, call.group(1), call.group(2)), Long.parseLong(call.group(3)));
            } else if (line.startsWith("x.")) {
                due("README.md tells what it answers: " + line, 0, 1);
            }
        }
        due("README.md has an example", told > 0 ? 1 : 0, 1);
    }

    private static long answer(GrangeParty x, String name, String given) throws ReflectiveOperationException {
        String[] words = given.isEmpty() ? new String[0] : given.split(", ");
        Object[] values = new Object[words.length];
        for (int i = 0; i < words.length; i++) {
            boolean isTruth = words[i].equals("true") || words[i].equals("false");
            values[i] = isTruth ? (Object) Boolean.valueOf(words[i]) : (Object) Integer.valueOf(words[i]);
        }
        for (Method method : GrangeParty.class.getDeclaredMethods()) {
            if (Modifier.isPublic(method.getModifiers()) && method.getName().equals(name)) {
                return ((Number) method.invoke(x, values)).longValue();
            }
        }
        throw new NoSuchMethodException(name);
    }

    private static void namesEachCall(List<String> lines) {
        TreeSet<String> named = new TreeSet<>();
        for (String line : lines) {
            if (line.startsWith("| `")) {
                Matcher call = Pattern.compile("`(\\w+)\\(([\\w, ]*)\\)`").matcher(line.split("\\|")[1]);
                while (call.find()) {
                    int given = call.group(2).isEmpty() ? 0 : call.group(2).split(",").length;
                    named.add(call.group(1) + " " + given);
                }
            }
        }
        TreeSet<String> face = new TreeSet<>();
        for (Method method : GrangeParty.class.getDeclaredMethods()) {
            if (Modifier.isPublic(method.getModifiers())) {
                face.add(method.getName() + " " + method.getParameterCount());
            }
        }
        due("README.md names the calls " + face + ", and these: " + named, named.equals(face) ? 1 : 0, 1);
    }

    private static void namesEachTest(List<String> lines) throws IOException {
        try (Stream<Path> files = Files.list(Path.of("src/test/java"))) {
            for (Path file : files.sorted().collect(Collectors.toList())) {
                String name = file.getFileName().toString().replace(".java", "");
                boolean named = lines.stream().anyMatch(line -> line.startsWith("- `" + name + "`:"));
                due("README.md names the test " + name, named ? 1 : 0, 1);
            }
        }
    }
}
