import java.io.IOException;
import java.lang.reflect.InvocationTargetException;
import java.lang.reflect.Method;
import java.nio.file.Files;
import java.nio.file.Path;
import java.util.Arrays;
import java.util.Comparator;
import java.util.Map;
import java.util.TreeMap;

/** Runs the tests of a class that each hold the program to one sentence of the document. */
final class Edges {
    private static final Path DOCUMENT = Path.of("../shared/DOC.md");

    private Edges() {
    }

    static void runAll(Class<?> tests, String... headings) throws IOException, IllegalAccessException {
        Map<String, String> document = document();
        Map<String, Integer> tested = new TreeMap<>();
        Method[] methods = tests.getDeclaredMethods();
        Arrays.sort(methods, Comparator.comparing(Method::getName));
        for (Method method : methods) {
            Says says = method.getAnnotation(Says.class);
            if (says != null) {
                Check.about(told(says) + " (" + method.getName() + ")");
                run(method);
                isInTheDocument(document, says);
                tested.merge(says.at(), 1, Integer::sum);
            }
        }
        Check.about("");
        for (String heading : headings) {
            Check.due(heading + " has a test", tested.containsKey(heading), true);
        }
        System.out.println(tested.values().stream().mapToInt(Integer::intValue).sum() + " sentences");
    }

    private static String told(Says says) {
        boolean ofPromise = says.at().startsWith("Promise ");
        Check.due(says.words() + ": names promises", ofPromise || says.promises().length > 0, true);
        String promises = ofPromise ? "" : " (promises " + Arrays.toString(says.promises()) + ")";
        return says.at() + promises + ", \"" + says.words() + "\"";
    }

    private static void run(Method method) throws IllegalAccessException {
        int before = Check.all();
        try {
            method.invoke(null);
        } catch (InvocationTargetException e) {
            Check.due("nothing thrown, but " + e.getCause(), 1, 0);
        }
        Check.due("answers were looked at", Check.all() > before, true);
    }

    private static void isInTheDocument(Map<String, String> document, Says says) {
        if (!document.isEmpty()) {
            String part = document.getOrDefault(says.at(), "");
            Check.due("the words stand in the document", part.contains(says.words()), true);
        }
    }

    /** Its parts by their headings: of promises without the name behind the colon, terms by their parts. */
    private static Map<String, String> document() throws IOException {
        Map<String, String> parts = new TreeMap<>();
        if (!Files.isReadable(DOCUMENT)) {
            System.out.println("no document at " + DOCUMENT + ": its words are not compared");
            return parts;
        }
        String text = Files.readString(DOCUMENT).replaceAll("(?m)^==== ([0-9])\\.", "## Terms $1\n");
        for (String part : text.split("(?m)^## ")) {
            int end = part.indexOf('\n');
            if (end > 0) {
                parts.put(part.substring(0, end).replaceAll(":.*", ""), part.substring(end));
            }
        }
        return parts;
    }

    /** An object with LIVES: of each NUMBER, BIRTH, DEATH, WORTH. */
    static LateSet of(int... lives) {
        LateSet set = new LateSet();
        for (int i = 0; i < lives.length; i += 4) {
            Check.due("span of a LIFE to begin with", set.span(lives[i], lives[i + 1], lives[i + 2], lives[i + 3]), 0);
        }
        return set;
    }

    /** So many LIVES: of NUMBER 100 and above, all of HOUR 10 alone. */
    static LateSet many(int lives) {
        LateSet set = new LateSet();
        for (int k = 0; k < lives; k++) {
            Check.due("span of LIFE " + k, set.span(100 + k, 10, 11, 0), 0);
        }
        return set;
    }

    /** LIVES are so: "NUMBER BIRTH-DEATH wWORTH, .."; by life(), which takes fewer calls than report(). */
    static void livesAre(LateSet set, String due) {
        Check.due("LIVES", Words.lives(set), due);
    }

    /** What a refused call must leave: LIVES, LOCK, EDITS, THE TAPE, what ran. */
    static void stays(String call, LateSet set, String before) {
        Check.due(call + " leaves all as it was", Words.state(set), before);
    }
}
