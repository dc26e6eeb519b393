import java.io.IOException;
import java.lang.reflect.InvocationTargetException;
import java.lang.reflect.Method;
import java.lang.reflect.Modifier;
import java.nio.file.DirectoryStream;
import java.nio.file.Files;
import java.nio.file.Path;
import java.util.ArrayList;
import java.util.List;
import java.util.Set;
import java.util.TreeSet;
import java.util.regex.Matcher;
import java.util.regex.Pattern;

/**
 * README.md tells the truth: each call of its run is made, in its order, and answers what stands beside it; the run
 * shows every method of the face; and each test of the project is named.
 */
public final class ReadmeTest {
    private static final Pattern MADE = Pattern.compile("QuorumChain chain = new QuorumChain\\((-?\\d+)\\); +// .+");
    private static final Pattern TOLD = Pattern.compile("((?:chain\\.\\w+\\([-\\d, ]*\\); +)+)// ([^:]+): .+");
    private static final Pattern CALL = Pattern.compile("chain\\.(\\w+)\\(([^)]*)\\);");

    private final QuorumChain chain;
    private final Set<String> called = new TreeSet<>();
    private int calls = 0;

    private ReadmeTest(int seed) {
        chain = new QuorumChain(seed);
    }

    public static void main(String[] args) throws IOException {
        List<String> readme = Files.readAllLines(Path.of("README.md"));
        List<String> run = runOf(readme);
        Matcher made = MADE.matcher(run.get(0));
        Check.holds("the run begins with a new object", made.matches());
        ReadmeTest test = new ReadmeTest(Integer.parseInt(made.group(1)));
        for (String line : run.subList(1, run.size())) {
            test.playLine(line);
        }
        Check.same("the methods that the run calls", test.called, methodsOfTheFace());
        Check.holds("the run has at most 512 calls", test.calls <= Chain.CALLS);
        lookForTests(String.join("\n", readme));
        Check.end();
    }

    /** The lines of the one block of Java, without those that are empty. */
    private static List<String> runOf(List<String> readme) {
        List<String> run = new ArrayList<>();
        int from = readme.indexOf("```java");
        Check.holds("there is a run", from >= 0);
        Check.due("where the last run starts", readme.lastIndexOf("```java"), from);
        for (int k = from + 1; k < readme.size() && !readme.get(k).equals("```"); k++) {
            if (!readme.get(k).isEmpty()) {
                run.add(readme.get(k));
            }
        }
        return run;
    }

    private void playLine(String line) {
        Matcher told = TOLD.matcher(line);
        if (!told.matches()) {
            Check.holds("'" + line + "' has calls, and their answers", false);
            return;
        }
        List<String> got = new ArrayList<>();
        Matcher call = CALL.matcher(told.group(1));
        while (call.find()) {
            got.add(answer(call.group(1), call.group(2)));
        }
        Check.same(line, got, List.of(told.group(2).split(", ")));
    }

    private String answer(String name, String args) {
        calls++;
        called.add(name);
        for (Method method : QuorumChain.class.getDeclaredMethods()) {
            if (method.getName().equals(name) && Modifier.isPublic(method.getModifiers())) {
                return answer(method, args.isEmpty() ? new String[0] : args.split(", "));
            }
        }
        return "no such method";
    }

    private String answer(Method method, String[] args) {
        Object[] values = new Object[args.length];
        for (int k = 0; k < args.length; k++) {
            boolean isLong = k < method.getParameterCount() && method.getParameterTypes()[k] == long.class;
            values[k] = isLong ? (Object) Long.valueOf(args[k]) : (Object) Integer.valueOf(args[k]);
        }
        try {
            return String.valueOf(method.invoke(chain, values));
        } catch (InvocationTargetException e) {
            return "throws " + e.getCause().getClass().getSimpleName();
        } catch (IllegalAccessException | IllegalArgumentException e) {
            return "not to be called so";
        }
    }

    private static Set<String> methodsOfTheFace() {
        Set<String> names = new TreeSet<>();
        for (Method method : QuorumChain.class.getDeclaredMethods()) {
            if (Modifier.isPublic(method.getModifiers())) {
                names.add(method.getName());
            }
        }
        return names;
    }

    private static void lookForTests(String readme) throws IOException {
        Check.holds("README.md says how the tests are run", readme.contains("\n    .ci/run\n"));
        Check.holds("and that script is there to be run", Files.isExecutable(Path.of(".ci/run")));
        try (DirectoryStream<Path> tests = Files.newDirectoryStream(Path.of("src/test/java"), "*Test.java")) {
            for (Path test : tests) {
                String name = test.getFileName().toString().replace(".java", "");
                Check.holds("README.md names " + name, readme.contains("`" + name + "`"));
            }
        }
    }
}
