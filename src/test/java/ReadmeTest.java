import java.io.IOException;
import java.lang.reflect.Method;
import java.lang.reflect.Modifier;
import java.nio.file.DirectoryStream;
import java.nio.file.Files;
import java.nio.file.Path;
import java.util.ArrayList;
import java.util.Arrays;
import java.util.List;
import java.util.Set;
import java.util.TreeSet;
import java.util.regex.Matcher;
import java.util.regex.Pattern;

/** README.md: its example answers as it says, and its tables name each call, with the answers of the document, and each test. */
public final class ReadmeTest {
    private static final Pattern CALL = Pattern.compile("\\s*ship\\.(\\w+)\\(([\\d, ]*)\\); *// (-?\\d+|BAD|NO|FULL|NONE)\\b.*");
    private static final Pattern TEXT = Pattern.compile("for \\(char letter : \"([^\"]*)\".*");
    private static final Pattern ROW = Pattern.compile("\\| `(\\w+)\\(([^)]*)\\)` \\|(.*)\\|");
    private static final List<String> NAMES = List.of("BAD", "NO", "FULL", "NONE");
    private static final Due DUE = new Due("ReadmeTest");

    public static void main(String[] args) throws IOException, ReflectiveOperationException {
        List<String> page = Files.readAllLines(Path.of("README.md"));
        example(page);
        rows(page, Files.readString(Path.of("../shared/DOC.md")));
        tests(page);
        DUE.end();
    }

    private static void example(List<String> page) throws ReflectiveOperationException {
        int from = page.indexOf("```java");
        SmellMoorings ship = new SmellMoorings();
        int answers = 0;
        int shown = 0;
        for (int i = from + 1; from >= 0 && i < page.size() && !page.get(i).equals("```"); i++) {
            Matcher text = TEXT.matcher(page.get(i));
            Matcher call = CALL.matcher(page.get(i));
            shown += page.get(i).matches("ship\\..*") ? 1 : 0;
            if (text.matches()) {
                Due.writeAll(ship, text.group(1));
            } else if (call.matches()) {
                answers++;
                DUE.due(call.group(1) + "(" + call.group(2) + ")", told(call.group(3)),
                    answer(ship, call.group(1), call.group(2)));
            }
        }
        DUE.due("each call of the example tells its answer", shown, answers);
        DUE.due("there is an example", 1, answers > 10 ? 1 : 0);
    }

    private static int told(String answer) {
        return NAMES.contains(answer) ? -1 - NAMES.indexOf(answer) : Integer.parseInt(answer);
    }

    private static int answer(SmellMoorings ship, String name, String numbers) throws ReflectiveOperationException {
        Object[] n = numbers.isEmpty() ? new Object[0] : Arrays.stream(numbers.split(", ")).map(Integer::valueOf).toArray();
        Class<?>[] types = new Class<?>[n.length];
        Arrays.fill(types, int.class);
        return (Integer) SmellMoorings.class.getMethod(name, types).invoke(ship, n);
    }

    /** A call that takes no number can't be BAD; what else it may be refused with, its row names as its promise does. */
    private static void rows(List<String> page, String document) {
        Set<String> told = new TreeSet<>();
        for (String line : page) {
            Matcher row = ROW.matcher(line);
            if (row.matches()) {
                String call = row.group(1) + "(" + row.group(2) + ")";
                told.add(call);
                String promise = promiseOf(row.group(1), document);
                for (String name : NAMES.subList(1, 4)) {
                    DUE.due("the row of " + call + " names " + name, names(promise, name), names(row.group(3), name));
                }
                DUE.due(call + ": BAD, if it takes a number", row.group(2).isEmpty() ? 0 : 1, names(promise, "BAD"));
            }
        }
        Set<String> face = new TreeSet<>();
        Matcher calls = Pattern.compile("public int (\\w+)\\(([^)]*)\\);").matcher(document);
        while (calls.find()) {
            face.add(calls.group(1) + "(" + calls.group(2).replace("int ", "") + ")");
        }
        DUE.due("calls of the class", face.size(), Arrays.stream(SmellMoorings.class.getDeclaredMethods())
            .map(Method::getModifiers).filter(Modifier::isPublic).count());
        DUE.due("a row for each call, but there are " + told, 1, told.equals(face) ? 1 : 0);
    }

    private static String promiseOf(String name, String document) {
        int from = document.indexOf("`int " + name + "(");
        int to = from < 0 ? -1 : document.indexOf("\n", from);
        return to < 0 ? "" : document.substring(from, to);
    }

    private static int names(String where, String word) {
        return Pattern.compile("\\b" + word + "\\b").matcher(where).find() ? 1 : 0;
    }

    private static void tests(List<String> page) throws IOException {
        List<String> there = new ArrayList<>();
        try (DirectoryStream<Path> files = Files.newDirectoryStream(Path.of("src/test/java"), "*Test.java")) {
            for (Path file : files) {
                there.add(file.getFileName().toString().replace(".java", ""));
            }
        }
        for (String test : there) {
            DUE.due("rows for " + test, 1, page.stream().filter(line -> line.startsWith("| " + test + " |")).count());
        }
        DUE.due("rows of tests", there.size(), page.stream().filter(line -> line.matches("\\| \\w+Test \\|.*")).count());
    }
}
