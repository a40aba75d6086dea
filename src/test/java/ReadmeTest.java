import java.io.IOException;
import java.lang.reflect.Method;
import java.lang.reflect.Modifier;
import java.nio.file.DirectoryStream;
import java.nio.file.Files;
import java.nio.file.Path;
import java.util.HashMap;
import java.util.List;
import java.util.Map;
import java.util.Set;
import java.util.TreeSet;
import java.util.regex.Matcher;
import java.util.regex.Pattern;

/** What README.md says is so: the answers in its run, the calls in its table, the tests in its list. */
public final class ReadmeTest extends Asking {
    private static final Pattern CALL = Pattern.compile("(?:int (\\w+) = )?x\\.(\\w+)\\((.*)\\);\\s+// ([^:]+)(?:: .*)?");
    private static final Pattern ENTRY = Pattern.compile("\\| `(\\w+)\\((.*)\\)` \\| .* \\|");
    private static final Pattern TEST = Pattern.compile("`(\\w+Test)`");

    public static void main(String[] args) throws Exception {
        begin("ReadmeTest");
        List<String> readme = Files.readAllLines(Path.of("README.md"));
        part("the run");
        run(readme);
        part("the table");
        is("the calls of the table and of the class: " + tableOf(readme) + " and " + face(),
                tableOf(readme).equals(face()), true);
        part("the list of tests");
        is("the tests of the list and of the folder: " + listOf(readme) + " and " + tests(),
                listOf(readme).equals(tests()), true);
        end();
    }

    private static void run(List<String> readme) throws ReflectiveOperationException {
        int at = readme.indexOf("```java") + 1;
        is("the run makes an object", readme.get(at).equals("TextMarks x = new TextMarks();"), true);
        TextMarks x = new TextMarks();
        Map<String, Integer> names = new HashMap<>();
        names.put("TextMarks.NONE", NONE);
        names.put("true", 1);
        names.put("false", 0);
        for (at++; !readme.get(at).equals("```"); at++) {
            Matcher call = CALL.matcher(readme.get(at));
            is("\"" + readme.get(at) + "\" is a call with its answer", call.matches(), true);
            if (call.matches()) {
                int got = answer(x, call.group(2), call.group(3).split(", "), names);
                is(readme.get(at), got, number(call.group(4), names));
                names.put(call.group(1), got);
            }
        }
    }

    private static int answer(TextMarks x, String name, String[] words, Map<String, Integer> names)
            throws ReflectiveOperationException {
        Class<?>[] types = new Class<?>[words.length];
        Object[] arguments = new Object[words.length];
        for (int i = 0; i < words.length; i++) {
            types[i] = int.class;
            arguments[i] = number(words[i], names);
        }
        Object got = TextMarks.class.getMethod(name, types).invoke(x, arguments);
        return got instanceof Boolean truth ? (truth ? 1 : 0) : (Integer) got;
    }

    private static int number(String word, Map<String, Integer> names) {
        if (names.containsKey(word)) {
            return names.get(word);
        }
        return word.startsWith("'") ? word.charAt(1) : Integer.parseInt(word);
    }

    /** Each call as its name and how many arguments it takes. */
    private static Set<String> tableOf(List<String> readme) {
        Set<String> found = new TreeSet<>();
        for (String line : readme) {
            Matcher entry = ENTRY.matcher(line);
            if (entry.matches()) {
                found.add(entry.group(1) + " of " + entry.group(2).split(", ").length);
            }
        }
        return found;
    }

    private static Set<String> face() {
        Set<String> found = new TreeSet<>();
        for (Method method : TextMarks.class.getDeclaredMethods()) {
            if (Modifier.isPublic(method.getModifiers())) {
                found.add(method.getName() + " of " + method.getParameterCount());
            }
        }
        return found;
    }

    private static Set<String> listOf(List<String> readme) {
        Set<String> found = new TreeSet<>();
        for (String line : readme) {
            Matcher test = TEST.matcher(line);
            while (test.find()) {
                found.add(test.group(1));
            }
        }
        return found;
    }

    private static Set<String> tests() throws IOException {
        Set<String> found = new TreeSet<>();
        try (DirectoryStream<Path> files = Files.newDirectoryStream(Path.of("src/test/java"), "*Test.java")) {
            for (Path file : files) {
                found.add(file.getFileName().toString().replace(".java", ""));
            }
        }
        return found;
    }
}
