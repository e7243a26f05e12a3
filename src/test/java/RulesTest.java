import java.lang.reflect.Field;
import java.lang.reflect.Method;
import java.lang.reflect.Modifier;
import java.nio.file.Files;
import java.nio.file.Path;
import java.util.List;
import java.util.Set;
import java.util.TreeSet;
import java.util.regex.Matcher;
import java.util.regex.Pattern;

/** The public face, and the rules of LANGUAGE.md that can be read off the class and its source. */
public final class RulesTest {
    private static final Path SOURCE = Path.of("src/main/java/PicturePapers.java");
    private static final int MOST_PARAMETERS = 7, MOST_LINES = 60, MOST_FIELDS = 20, MOST_CLASSES = 12, MOST_DEEP = 8;

    /** What rule 4 lists of the library, as far as a class without texts and lists can call it. */
    private static final Set<String> LIBRARY = Set.of("java.lang.Object.<init>", "java.lang.System.arraycopy",
            "java.util.Arrays.copyOf", "java.util.Arrays.copyOfRange", "java.util.Arrays.fill",
            "java.lang.Math.abs", "java.lang.Math.max", "java.lang.Math.min",
            "java.lang.Math.floorDiv", "java.lang.Math.floorMod");

    private final Check check = new Check();

    public static void main(String[] args) throws Exception {
        RulesTest test = new RulesTest();
        test.face(new Document().face(), Files.readString(SOURCE));
        test.classes();
        test.calls(new CallGraph(SOURCE));
        test.source(Files.readString(SOURCE));
        test.check.finish();
    }

    /** Each row of the document's face stands in the source, and nothing else is to be seen from outside. */
    private void face(List<String> rows, String source) {
        check.about("the public face and rule 1");
        Set<String> methods = new TreeSet<>();
        Set<String> constants = new TreeSet<>();
        for (String row : rows) {
            String head = row.substring(0, row.length() - (row.contains("=") ? 0 : 1));
            check.holds(source.contains(head), "the source has " + head);
            if (row.contains("=")) {
                Matcher names = Pattern.compile("(\\w+) = ").matcher(row);
                names.results().forEach(name -> constants.add(name.group(1)));
            } else if (!row.contains("PicturePapers")) {
                methods.add(row.replaceAll("public \\w+ (\\w+)\\(.*", "$1"));
            }
        }
        check.due(methods.size(), 39, "methods of the face");
        check.due(constants.size(), 6, "constants of the face");
        Class<?> type = PicturePapers.class;
        check.due(type.getModifiers(), Modifier.PUBLIC | Modifier.FINAL, "the class");
        check.due(type.getDeclaredConstructors().length, 1, "constructors");
        check.due(type.getDeclaredConstructors()[0].getModifiers(), Modifier.PUBLIC, "the constructor");
        Set<String> got = new TreeSet<>();
        for (Method method : type.getDeclaredMethods()) {
            boolean isPrivate = Modifier.isPrivate(method.getModifiers());
            check.holds(isPrivate || method.getModifiers() == Modifier.PUBLIC, method + " is public and no more");
            check.holds(isPrivate != methods.contains(method.getName()), method + " is the face's or private");
            check.holds(isPrivate || got.add(method.getName()), method + " stands once");
        }
        check.holds(got.equals(methods), "the methods are " + methods + ": " + got);
        for (Field field : type.getDeclaredFields()) {
            boolean isConstant = constants.contains(field.getName());
            check.holds(isConstant != Modifier.isPrivate(field.getModifiers()), field + " is the face's or private");
            check.holds(!isConstant || field.getModifiers() == (Modifier.PUBLIC | Modifier.STATIC | Modifier.FINAL), "" + field);
        }
    }

    private void calls(CallGraph graph) {
        check.about("rules 4, 8 and 11");
        for (String name : graph.libraryCalls()) {
            check.holds(LIBRARY.contains(name), "rule 4 lists " + name);
        }
        check.holds(graph.recursive().isEmpty(), "nothing calls itself: " + graph.recursive());
        List<String> chain = graph.longestChain();
        check.holds(chain.size() <= MOST_DEEP, "calls go at most " + MOST_DEEP + " deep: " + chain);
    }

    private void classes() {
        check.about("rules 2, 5 and 11");
        Class<?>[] inside = PicturePapers.class.getDeclaredClasses();
        check.holds(inside.length < MOST_CLASSES, "classes: " + inside.length);
        for (Class<?> one : inside) {
            check.holds(Modifier.isStatic(one.getModifiers()), one + " is static");
            check.holds(!Modifier.isPublic(one.getModifiers()), one + " is not public");
            limits(one);
        }
        limits(PicturePapers.class);
    }

    private void limits(Class<?> one) {
        int fields = 0;
        for (Field field : one.getDeclaredFields()) {
            boolean isStatic = Modifier.isStatic(field.getModifiers());
            fields += isStatic ? 0 : 1;
            check.holds(!isStatic || Modifier.isFinal(field.getModifiers()), field + " is final");
        }
        check.holds(fields <= MOST_FIELDS, one + " has fields: " + fields);
        for (Method method : one.getDeclaredMethods()) {
            // The document's own face gives change eight.
            int most = method.getName().equals("change") ? 8 : MOST_PARAMETERS;
            check.holds(method.getParameterCount() <= most, method + " takes few parameters");
        }
    }

    private void source(String whole) {
        String code = whole.replaceAll("(?s)/\\*.*?\\*/", " ").replaceAll("//[^\n]*", " ").replaceAll("'.'", "0");
        check.about("rules 3 to 6, 10, 12 and 13");
        String[] words = {"throw", "throws", "try", "catch", "finally", "synchronized", "assert", "package", "native",
            "volatile", "transient", "protected", "yield", "var", "Object", "Random", "System\\.(?!arraycopy\\()",
            "hashCode", "toString", "equals", "Thread", "\\w+Exact"};
        for (String word : words) {
            check.holds(!Pattern.compile("\\b" + word + (word.endsWith(")") ? "" : "\\b")).matcher(code).find(), "no " + word);
        }
        for (String sign : new String[] {"->", "::", "@", "\"", "[][][]"}) {
            check.holds(!code.contains(sign), "no " + sign);
        }
        Matcher imports = Pattern.compile("(?m)^import (.*);").matcher(code);
        while (imports.find()) {
            check.holds(imports.group(1).equals("java.util.Arrays"), "import " + imports.group(1));
        }
        check.holds(code.chars().allMatch(c -> c < 128), "plain signs");
        check.about("rule 11");
        int from = 0;
        boolean inMethod = false;
        String[] lines = whole.split("\n");
        for (int k = 0; k < lines.length; k++) {
            if (lines[k].matches(" {4,8}[\\w\\[\\] ]+\\(.*\\) \\{")) {
                from = k;
                inMethod = true;
            } else if (inMethod && lines[k].matches(" {4,8}\\}")) {
                check.holds(k - from < MOST_LINES, "the method at line " + (from + 1) + " is short");
                inMethod = false;
            }
        }
    }
}
