import java.io.ByteArrayOutputStream;
import java.io.IOException;
import java.io.PrintStream;
import java.lang.reflect.Method;
import java.lang.reflect.Modifier;
import java.nio.file.Files;
import java.nio.file.Path;
import java.util.List;
import java.util.regex.Matcher;
import java.util.regex.Pattern;
import java.util.stream.Collectors;
import java.util.stream.Stream;

/** README.md says how to use the class and how to run its tests, and what it says is so. */
public final class ReadmeTest {
    private static final String[] WHYS = {"0 (done)", "1 something", "2 there is no such life", "3 hours are locked",
        "4 two lives", "5 there are 40 lives", "6 nothing would change"};

    public static void main(String[] args) throws IOException {
        String readme = Files.readString(Path.of("README.md"));
        exampleIsTheFile(readme);
        exampleAnswersSo(readme);
        namesEachCall(readme);
        namesEachTest(readme);
        linesAreRead(readme);
        fieldsAreRead(readme);
        tapeIsEmptied(readme);
        Check.close();
    }

    private static String block(String readme, String kind, int k) {
        Matcher block = Pattern.compile("(?s)```" + kind + "\n(.*?)```").matcher(readme);
        for (int i = 0; i <= k; i++) {
            if (!block.find()) {
                return "no block " + k + " of " + kind;
            }
        }
        return block.group(1);
    }

    private static void exampleIsTheFile(String readme) throws IOException {
        String file = Files.readString(Path.of("examples/Example.java"));
        int from = file.indexOf("        LateSet set = new");
        int to = file.indexOf("    }\n", from);
        String calls = from < 0 || to < 0 ? "" : file.substring(from, to).replaceAll("(?m)^ {8}", "");
        Check.due("the calls of the example", block(readme, "java", 0), calls);
    }

    private static void exampleAnswersSo(String readme) {
        PrintStream out = System.out;
        ByteArrayOutputStream printed = new ByteArrayOutputStream();
        System.setOut(new PrintStream(printed, true));
        Example.main(new String[0]);
        System.setOut(out);
        Check.due("what the example prints", printed.toString().replace("\r", ""), block(readme, "text", 0));
    }

    private static void namesEachCall(String readme) {
        for (Method method : LateSet.class.getDeclaredMethods()) {
            if (Modifier.isPublic(method.getModifiers())) {
                String row = "\\| `" + method.getName() + "\\((\\w+(, \\w+){"
                    + Math.max(0, method.getParameterCount() - 1) + "})?\\)` \\|";
                Check.due("README tells of " + method, Pattern.compile(row).matcher(readme).find(), true);
            }
        }
        for (String why : WHYS) {
            Check.due("README tells of " + why, readme.contains(why), true);
        }
    }

    private static void namesEachTest(String readme) throws IOException {
        Check.due("README tells of .ci/run", readme.contains("    .ci/run\n"), true);
        Check.due(".ci/run may be run", Files.isExecutable(Path.of(".ci/run")), true);
        try (Stream<Path> files = Files.list(Path.of("tests"))) {
            List<String> tests = files.map(file -> file.getFileName().toString())
                .filter(name -> name.endsWith("Test.java")).collect(Collectors.toList());
            for (String test : tests) {
                Check.due("README tells of " + test, readme.contains("`tests/" + test + "`"), true);
            }
        }
    }

    /** Each LINE that it shows is one, with and without what may be left out. */
    private static void linesAreRead(String readme) {
        int lines = 0;
        for (String line : block(readme, "text", 1).split(";")) {
            String words = line.trim().replace("N", "7");
            if (words.isEmpty()) {
                continue;
            }
            lines++;
            for (String told : new String[] {words.replaceAll("\\[.*\\]", ""), words.replaceAll("[\\[\\]]", "")}) {
                LateSet set = new LateSet();
                Check.due("text of " + told, Words.text(set, told + ";") >= 0, true);
                Check.due("LINES of " + told, set.ran(0), 1);
            }
        }
        Check.due("LINES that README shows", lines, 10);
    }

    /** Each FIELD that it names is one of that kind of QUESTION, and of no other. */
    private static void fieldsAreRead(String readme) {
        String told = readme.replaceAll("\\s+", " ");
        String[] kinds = {"lives", "worth", "hours", "run"};
        Matcher both = Pattern.compile("of lives and worth ((`\\w+`,? ?)+) of hours and run ((`\\w+`,? ?)+)")
            .matcher(told.replace("`, of hours", "` of hours"));
        Check.due("README tells of the FIELDS", both.find(), true);
        String[] fields = (both.group(1) + " " + both.group(3)).replace("`", "").replace(".", "").trim().split("[, ]+");
        Check.due("FIELDS that README names", fields.length, 11);
        for (int i = 0; i < fields.length; i++) {
            for (int kind = 0; kind < kinds.length; kind++) {
                String question = kinds[kind] + " where " + fields[i] + " = 0";
                Check.due(question, Words.ask(new LateSet(), question) >= 0, i < 6 == kind < 2);
            }
        }
    }

    private static void tapeIsEmptied(String readme) {
        Check.due("README tells when the tape stays",
            readme.contains("Both empty the tape, but for an n below 0 or above what the tape has"), true);
        for (int n : new int[] {-1, 21}) {
            LateSet set = new LateSet();
            set.feed(0, 0, 0, 0, 0);
            Check.due("text(" + n + ")", set.text(n), LateSet.NONE);
            Check.due("ask(" + n + ")", set.ask(n), LateSet.NONE);
            Check.due("bytes behind them", set.count(4), 20);
        }
    }
}
