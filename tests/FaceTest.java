import java.io.IOException;
import java.lang.reflect.Constructor;
import java.lang.reflect.Field;
import java.lang.reflect.Method;
import java.lang.reflect.Modifier;
import java.nio.file.Files;
import java.nio.file.Path;
import java.util.ArrayList;
import java.util.List;
import java.util.TreeSet;
import java.util.regex.Matcher;
import java.util.regex.Pattern;

/** The face of the class, and rules of LANGUAGE.md that the source and the class show. */
public final class FaceTest {
    private static final String[] FACE = {
        "int born(int, int, int)", "int span(int, int, int, int)", "int died(int, int)", "int unborn(int, int)",
        "int revived(int, int)", "int shifted(int, int, int)", "int worthed(int, int, int)", "int lock(int)",
        "int undo()", "boolean keep(int, boolean)", "int feed(int, int, int, int, int)", "int text(int)",
        "int ran(int)", "int ask(int)", "int report(int)", "int count(int)", "int life(int, int)",
        "int which(int, int)", "int alive(int)", "int next(int, int)", "int before(int, int)", "int rank(int, int)",
        "int kth(int, int)", "int sum(int, int, int)", "int gap(int)", "int changes(int, int)",
        "int always(int, int, int)", "int ever(int, int, int)", "int both(int, int)", "int reigns(int, int)",
        "int crowd(int)", "int cover(int, int)", "int on(int)", "int onAt(int, int)"};
    private static final String[] FORBIDDEN = {"->", "::", "\\bfinally\\b", "\\bsynchronized\\b", "\\bassert\\b",
        "\\bcatch\\b", "\\bprotected\\b", "\\bMath\\.\\w*Exact\\b", "\\bSystem\\.(?!arraycopy)", "\\bvar\\b",
        "\\bObject\\b", "\\bHashMap\\b", "\\bRandom\\b", "\\binstanceof\\b", "\\bhashCode\\b", "\\btoString\\b",
        "\\.equals\\b", "\\bString\\.", "\\bstatic \\{", "\\bdouble\\b", "\\bfloat\\b", "\\bpackage\\b"};

    public static void main(String[] args) throws IOException {
        face();
        members(LateSet.class);
        Class<?>[] inside = LateSet.class.getDeclaredClasses();
        Check.due("classes inside", inside.length <= 11, true);
        for (Class<?> one : inside) {
            Check.due(one + " is static", Modifier.isStatic(one.getModifiers()), true);
            Check.due(one + " is not public", Modifier.isPublic(one.getModifiers()), false);
            Check.due(one + " is not protected", Modifier.isProtected(one.getModifiers()), false);
            members(one);
        }
        source(Files.readString(Path.of(System.getProperty("source", "src/main/java/LateSet.java"))));
        Check.close();
    }

    private static String told(Method method) {
        StringBuilder told = new StringBuilder(method.getReturnType() + " " + method.getName() + "(");
        for (Class<?> type : method.getParameterTypes()) {
            told.append(told.charAt(told.length() - 1) == '(' ? "" : ", ").append(type);
        }
        return told.append(")").toString();
    }

    private static void face() {
        Class<?> face = LateSet.class;
        Check.due("public and final", face.getModifiers(), Modifier.PUBLIC | Modifier.FINAL);
        TreeSet<String> want = new TreeSet<>(List.of(FACE));
        TreeSet<String> got = new TreeSet<>();
        for (Method method : face.getDeclaredMethods()) {
            if (Modifier.isPublic(method.getModifiers())) {
                got.add(told(method));
                boolean life = method.getName().equals("life");
                Check.due(method + " tells what it throws", method.getExceptionTypes().length, life ? 1 : 0);
            } else {
                Check.due(method + " is private", Modifier.isPrivate(method.getModifiers()), true);
            }
        }
        Check.due("the face", got.toString(), want.toString());
        for (Field field : face.getDeclaredFields()) {
            boolean none = field.getName().equals("NONE");
            int wanted = none ? Modifier.PUBLIC | Modifier.STATIC | Modifier.FINAL : Modifier.PRIVATE;
            Check.due(field + " is as it should be", field.getModifiers() & wanted, wanted);
        }
        Constructor<?>[] constructors = face.getDeclaredConstructors();
        Check.due("constructors", constructors.length, 1);
        Check.due("the constructor is public", constructors[0].getModifiers(), Modifier.PUBLIC);
        Check.due("the constructor takes nothing", constructors[0].getParameterCount(), 0);
    }

    private static void members(Class<?> one) {
        List<String> public1 = new ArrayList<>();
        for (String method : FACE) {
            public1.add(method.substring(method.indexOf(' ') + 1, method.indexOf('(')));
        }
        int fields = 0;
        for (Field field : one.getDeclaredFields()) {
            boolean fixed = Modifier.isStatic(field.getModifiers());
            fields += fixed ? 0 : 1;
            Check.due(field + ": a static field is final", !fixed || Modifier.isFinal(field.getModifiers()), true);
        }
        Check.due(one + ": fields", fields <= 20, true);
        for (Method method : one.getDeclaredMethods()) {
            boolean named = public1.contains(method.getName());
            boolean open = Modifier.isPublic(method.getModifiers()) && one == LateSet.class;
            Check.due(method + " bears no public one's name", named && !open, false);
            Check.due(method + ": parameters", method.getParameterCount() <= 7, true);
        }
    }

    private static void source(String source) {
        for (int i = 0; i < source.length(); i++) {
            if (source.charAt(i) > 126 || (source.charAt(i) < 32 && source.charAt(i) != '\n')) {
                Check.due("source: sign at " + i, source.charAt(i), ' ');
            }
        }
        String code = source.replaceAll("(?s)/\\*.*?\\*/", "").replaceAll("//[^\n]*", "");
        for (String forbidden : FORBIDDEN) {
            Matcher matcher = Pattern.compile(forbidden).matcher(code);
            Check.due("source has " + forbidden, matcher.find(), false);
        }
        Matcher imports = Pattern.compile("(?m)^import .*$").matcher(code);
        while (imports.find()) {
            Check.due("source", imports.group(), "import java.util.NoSuchElementException;");
        }
        Matcher thrown = Pattern.compile("throw new (\\w+)").matcher(code);
        while (thrown.find()) {
            Check.due("source throws", thrown.group(1), "NoSuchElementException");
        }
        int start = 0;
        String[] rows = source.split("\n");
        for (int i = 0; i < rows.length; i++) {
            if (rows[i].matches("( {4}| {8})[\\w<].*\\) (throws \\w+ )?\\{")) {
                start = i;
            }
            if (rows[i].matches("( {4}| {8})\\}")) {
                Check.due("source: rows of the method at " + start, i - start <= 60, true);
            }
        }
    }
}
