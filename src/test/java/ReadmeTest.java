import java.io.IOException;
import java.lang.reflect.Method;
import java.lang.reflect.Modifier;
import java.nio.ByteBuffer;
import java.nio.charset.StandardCharsets;
import java.nio.file.Files;
import java.nio.file.Path;
import java.util.ArrayList;
import java.util.Arrays;
import java.util.List;
import java.util.regex.Matcher;
import java.util.regex.Pattern;
import java.util.stream.Stream;

/** What README.md says is so: its voyage is done as it stands there, call by call. */
public final class ReadmeTest {
    private static final Check CHECK = new Check("ReadmeTest");
    private static final Path TESTS = Path.of("src/test/java");
    private static final Pattern CALL = Pattern.compile("company\\.(\\w+)\\(([-\\d, ]*)\\); +// (-?\\d+|true|false)\\b.*");
    private static final int CALLS_OF_THE_VOYAGE = 20;

    static void write(VoyageCompany company, String text) {
        byte[] bytes = text.getBytes(StandardCharsets.ISO_8859_1);
        ByteBuffer tape = ByteBuffer.wrap(Arrays.copyOf(bytes, (bytes.length + 19) / 20 * 20));
        while (tape.hasRemaining()) {
            company.feed(tape.getInt(), tape.getInt(), tape.getInt(), tape.getInt(), tape.getInt());
        }
        company.end(bytes.length);
    }

    private static List<String> blocks(String readme, String kind) {
        List<String> found = new ArrayList<>();
        Matcher block = Pattern.compile("(?s)```" + kind + "\n(.*?)```").matcher(readme);
        while (block.find()) {
            found.add(block.group(1));
        }
        return found;
    }

    private static int[] numbers(String listed) {
        return listed.isEmpty() ? new int[0] : Arrays.stream(listed.split(", ")).mapToInt(Integer::parseInt).toArray();
    }

    private static long answer(String told) {
        return told.equals("true") ? 1 : told.equals("false") ? 0 : Long.parseLong(told);
    }

    private static void voyage(String lines, String text) {
        VoyageCompany company = new VoyageCompany();
        int calls = 0;
        for (String line : lines.split("\n")) {
            Matcher call = CALL.matcher(line);
            if (call.matches()) {
                long got = ModelTest.answer(company, new Model.Call(call.group(1), numbers(call.group(2))));
                CHECK.due(line, got, answer(call.group(3)));
                calls++;
            } else if (line.startsWith("write(company, text);")) {
                write(company, text);
            } else {
                CHECK.due("a call without its answer: " + line, line.equals("VoyageCompany company = new VoyageCompany();"), true);
            }
        }
        CHECK.due("calls of the voyage are found", calls >= CALLS_OF_THE_VOYAGE, true);
    }

    /** The method that README.md shows is the one that is used here. */
    private static void shownMethod(String shown) throws IOException {
        String here = Files.readString(TESTS.resolve("ReadmeTest.java"));
        CHECK.due("write() as shown", here.contains(shown.indent(4)), true);
    }

    private static void eachCallIsNamed(String readme) {
        for (Method method : VoyageCompany.class.getDeclaredMethods()) {
            boolean named = readme.contains("`" + method.getName() + "`");
            CHECK.due(method.getName() + " is named", !Modifier.isPublic(method.getModifiers()) || named, true);
        }
    }

    private static void eachTestFileIsNamed(String readme) throws IOException {
        try (Stream<Path> files = Files.list(TESTS)) {
            files.map(file -> file.getFileName().toString().replace(".java", ""))
                    .forEach(name -> CHECK.due(name + " is named", readme.contains("`" + name + "`"), true));
        }
        for (String name : named(readme)) {
            CHECK.due("there is a " + name, Files.exists(TESTS.resolve(name + ".java")), true);
        }
    }

    private static List<String> named(String readme) {
        List<String> names = new ArrayList<>();
        Matcher name = Pattern.compile("`(\\w+Test)`").matcher(readme);
        while (name.find()) {
            names.add(name.group(1));
        }
        return names;
    }

    public static void main(String[] args) throws IOException {
        String readme = Files.readString(Path.of("README.md"));
        List<String> code = blocks(readme, "java");
        List<String> texts = blocks(readme, "text");
        CHECK.due("blocks of code", code.size(), 2);
        CHECK.due("texts", texts.size(), 1);
        if (CHECK.wrong() == 0) {
            voyage(code.get(0), texts.get(0));
            shownMethod(code.get(1));
        }
        eachCallIsNamed(readme);
        eachTestFileIsNamed(readme);
        CHECK.finish();
    }
}
