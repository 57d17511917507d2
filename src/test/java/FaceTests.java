import java.lang.reflect.Constructor;
import java.lang.reflect.Field;
import java.lang.reflect.Method;
import java.lang.reflect.Modifier;
import java.nio.charset.StandardCharsets;
import java.nio.file.Files;
import java.nio.file.Path;
import java.util.ArrayList;
import java.util.List;
import java.util.Set;
import java.util.TreeSet;
import java.util.regex.Matcher;
import java.util.regex.Pattern;

/** The face of the class against the document, and its source against the rules of the language. */
final class FaceTests {
    private static final String[] FORBIDDEN = {
        "catch", "finally", "synchronized", "assert", "instanceof", "new int\\[\\]\\[", "->", "::",
        "System", "Thread", "Random", "Exact", "toString", "equals", "hashCode", "package", "protected",
    };

    private FaceTests() {
    }

    static void run(String source, String document) {
        Check.test("the face is the document's", () -> faceIsTheDocuments(document));
        Check.test("rule 1: nothing else can be seen", FaceTests::nothingElseIsSeen);
        Check.test("rule 1: no private method bears a public one's name", FaceTests::namesDiffer);
        Check.test("rules 2, 5, 11: classes and fields", FaceTests::classesAndFields);
        Check.test("rules 3, 4, 6: words that the source does without", () -> wordsOfSource(source));
        Check.test("rule 11: methods are short", () -> methodsAreShort(source));
    }

    private static void faceIsTheDocuments(String document) throws Exception {
        String text = read(document);
        int begin = text.indexOf("public final class Gatherhouse {");
        int end = text.indexOf("\n}", begin);
        Set<String> due = new TreeSet<>();
        for (String row : text.substring(begin, end).split("\n")) {
            if (row.endsWith(";")) {
                due.add(row.trim().replaceAll("(int|char|long|boolean) \\w+(?=[,)])", "$1").replace(";", ""));
            }
        }
        Set<String> got = new TreeSet<>();
        for (Method method : Gatherhouse.class.getDeclaredMethods()) {
            if (Modifier.isPublic(method.getModifiers())) {
                got.add(told("public " + method.getReturnType() + " " + method.getName(),
                        method.getParameterTypes(), method.getExceptionTypes()));
            }
        }
        for (Constructor<?> maker : Gatherhouse.class.getDeclaredConstructors()) {
            got.add(told("public Gatherhouse", maker.getParameterTypes(), maker.getExceptionTypes()));
        }
        Check.same(got, due);
        Check.same(due.size(), 48);
        Check.same(Gatherhouse.class.getModifiers(), Modifier.PUBLIC | Modifier.FINAL);
    }

    private static String told(String head, Class<?>[] types, Class<?>[] thrown) {
        List<String> names = new ArrayList<>();
        for (Class<?> type : types) {
            names.add(type.getSimpleName());
        }
        List<String> ends = new ArrayList<>();
        for (Class<?> type : thrown) {
            ends.add(type.getSimpleName());
        }
        String row = head + "(" + String.join(", ", names) + ")";
        return ends.isEmpty() ? row : row + " throws " + String.join(", ", ends);
    }

    private static void nothingElseIsSeen() {
        for (Method method : Gatherhouse.class.getDeclaredMethods()) {
            boolean isHidden = Modifier.isPrivate(method.getModifiers()) || method.isSynthetic();
            Check.same(isHidden || Modifier.isPublic(method.getModifiers()), true);
            Check.same(Modifier.isStatic(method.getModifiers()) && !isHidden, false);
        }
        for (Field field : Gatherhouse.class.getDeclaredFields()) {
            Check.same(Modifier.isPrivate(field.getModifiers()) || field.isSynthetic(), true);
        }
    }

    private static void namesDiffer() {
        Set<String> seen = new TreeSet<>();
        Set<String> hidden = new TreeSet<>();
        for (Class<?> owner : classes()) {
            for (Method method : owner.getDeclaredMethods()) {
                (Modifier.isPublic(method.getModifiers()) ? seen : hidden).add(method.getName());
            }
        }
        hidden.retainAll(seen);
        Check.same(hidden, new TreeSet<String>());
    }

    private static List<Class<?>> classes() {
        List<Class<?>> all = new ArrayList<>();
        all.add(Gatherhouse.class);
        for (Class<?> inside : Gatherhouse.class.getDeclaredClasses()) {
            all.add(inside);
        }
        return all;
    }

    private static void classesAndFields() {
        Check.same(classes().size() <= 12, true);
        for (Class<?> owner : classes()) {
            boolean isInside = owner != Gatherhouse.class;
            Check.same(!isInside || Modifier.isStatic(owner.getModifiers()), true);
            Check.same(isInside && Modifier.isPublic(owner.getModifiers()), false);
            int own = 0;
            for (Field field : owner.getDeclaredFields()) {
                boolean isStatic = Modifier.isStatic(field.getModifiers());
                Check.same(!isStatic || Modifier.isFinal(field.getModifiers()), true);
                own += isStatic ? 0 : 1;
            }
            Check.same(own <= 20, true);
        }
    }

    private static void wordsOfSource(String source) throws Exception {
        String text = read(source);
        for (int i = 0; i < text.length(); i++) {
            Check.same(text.charAt(i) < 127, true);
        }
        String code = text.replaceAll("(?s)/\\*.*?\\*/", "").replaceAll("//[^\n]*", "");
        for (String word : FORBIDDEN) {
            Matcher found = Pattern.compile(word.matches("\\w+") ? "\\b" + word + "\\b" : word).matcher(code);
            Check.same(found.find() ? found.group() : "", "");
        }
        Matcher imported = Pattern.compile("import [^;]*;").matcher(code);
        while (imported.find()) {
            Check.same(imported.group(), "import java.util.NoSuchElementException;");
        }
        Matcher thrown = Pattern.compile("throw [^;]*;").matcher(code);
        while (thrown.find()) {
            Check.same(thrown.group().matches("throw new \\w+Exception\\(\"[^\"]*\"\\);"), true);
        }
    }

    private static void methodsAreShort(String source) throws Exception {
        String[] rows = read(source).split("\n");
        int begun = -1;
        for (int i = 0; i < rows.length; i++) {
            if (rows[i].matches(" {4,8}(public|private) .*\\).*\\{") && !rows[i].contains(" class ")) {
                begun = i;
            }
            if (begun >= 0 && rows[i].matches(" {4,8}\\}")) {
                Check.same(i - begun <= 60, true);
                begun = -1;
            }
        }
    }

    private static String read(String file) throws Exception {
        return new String(Files.readAllBytes(Path.of(file)), StandardCharsets.UTF_8);
    }
}
