import java.lang.reflect.Field;
import java.lang.reflect.Method;
import java.lang.reflect.Modifier;
import java.nio.file.Files;
import java.nio.file.Path;
import java.util.Arrays;
import java.util.Set;
import java.util.TreeSet;
import java.util.regex.Matcher;
import java.util.regex.Pattern;

/** The public face, and the rules of LANGUAGE.md that can be read off the class and its source. */
public final class RulesTest {
    private static final Path SOURCE = Path.of("src/main/java/PicturePapers.java");
    private static final int MOST_PARAMETERS = 7, MOST_LINES = 60, MOST_FIELDS = 20, MOST_CLASSES = 12;

    private static final String FACE = """
            int picture(int, int, int, int, int)
            int ofPicture(int, int)
            int alter(int, int, int)
            int lens(int)
            int steal(int, int)
            int take(int, int, int)
            int hush(int, int, int, int)
            int change(int, int, int, int, int, int, int, int)
            int act(int, int, int, int, int)
            int tear(int)
            int line(int, int)
            int speaks(int)
            int play(int)
            int within(int)
            int way(int, int)
            int doubt(int)
            int whole(int)
            int proof(int, int, int)
            int proves(int, int, int, int, int, int)
            int hide(int, int)
            int found(int, int)
            long falsely(int, int, int)
            int like(int, int)
            int nearest(int, int)
            int coarse(int, int)
            int look(int, int, int)
            int best(int, int)
            int doubtful()
            int sheet(int, int, int)
            int lose(int)
            int put(int, int, int)
            long cell(int, int, int)
            int copy(int, int, int, int, int)
            int tell(int)
            int show(int)
            int as(int, int)
            int trace()
            int fault()
            int many(int)
            """;

    private final Check check = new Check();

    public static void main(String[] args) throws Exception {
        RulesTest test = new RulesTest();
        test.face();
        test.classes();
        test.source(Files.readString(SOURCE));
        test.check.finish();
    }

    private void face() {
        check.about("rule 1");
        Set<String> due = new TreeSet<>(FACE.lines().toList());
        Set<String> got = new TreeSet<>();
        Set<String> publicNames = new TreeSet<>();
        for (Method method : PicturePapers.class.getDeclaredMethods()) {
            if (!Modifier.isPrivate(method.getModifiers())) {
                String types = Arrays.toString(Arrays.stream(method.getParameterTypes()).map(Class::getName).toArray());
                got.add(method.getReturnType() + " " + method.getName() + "(" + types.substring(1, types.length() - 1) + ")");
                publicNames.add(method.getName());
                check.holds(method.getModifiers() == Modifier.PUBLIC, method + " is public and no more");
            }
        }
        check.holds(due.equals(got), "the methods are " + due + ": " + got);
        for (Method method : PicturePapers.class.getDeclaredMethods()) {
            boolean isPrivate = Modifier.isPrivate(method.getModifiers());
            check.holds(!isPrivate || !publicNames.contains(method.getName()), method + " has a name of its own");
        }
        Set<String> constants = new TreeSet<>();
        for (Field field : PicturePapers.class.getDeclaredFields()) {
            if (!Modifier.isPrivate(field.getModifiers())) {
                constants.add(field.getType() + " " + field.getName());
                check.due(field.getModifiers(), Modifier.PUBLIC | Modifier.STATIC | Modifier.FINAL, "" + field);
            }
        }
        check.due(constants.equals(Set.of("int UNKNOWN", "int OUTSIDE", "int STATE", "int FULL", "int NONE", "long LOST"))
                ? 1 : 0, 1, "the constants: " + constants);
        check.due(PicturePapers.class.getModifiers(), Modifier.PUBLIC | Modifier.FINAL, "the class");
        check.due(PicturePapers.class.getDeclaredConstructors().length, 1, "constructors");
    }

    private void classes() {
        check.about("rules 2, 5 and 11");
        Class<?>[] inside = PicturePapers.class.getDeclaredClasses();
        check.holds(inside.length < MOST_CLASSES, "classes: " + inside.length);
        for (Class<?> one : inside) {
            check.holds(Modifier.isStatic(one.getModifiers()), one + " is static");
            check.holds(!Modifier.isPublic(one.getModifiers()), one + " is not public");
            limits(one);
        }
        limits(PicturePapers.class);
    }

    private void limits(Class<?> one) {
        int fields = 0;
        for (Field field : one.getDeclaredFields()) {
            boolean isStatic = Modifier.isStatic(field.getModifiers());
            fields += isStatic ? 0 : 1;
            check.holds(!isStatic || Modifier.isFinal(field.getModifiers()), field + " is final");
        }
        check.holds(fields <= MOST_FIELDS, one + " has fields: " + fields);
        for (Method method : one.getDeclaredMethods()) {
            // The document's own face gives change eight.
            int most = method.getName().equals("change") ? 8 : MOST_PARAMETERS;
            check.holds(method.getParameterCount() <= most, method + " takes few parameters");
        }
    }

    private void source(String whole) {
        String code = whole.replaceAll("(?s)/\\*.*?\\*/", " ").replaceAll("//[^\n]*", " ").replaceAll("'.'", "0");
        check.about("rules 3 to 6, 10, 12 and 13");
        String[] words = {"throw", "throws", "try", "catch", "finally", "synchronized", "assert", "package", "native",
            "volatile", "transient", "protected", "yield", "var", "Object", "Random", "System\\.(?!arraycopy\\()",
            "hashCode", "toString", "equals", "Thread", "\\w+Exact"};
        for (String word : words) {
            check.holds(!Pattern.compile("\\b" + word + (word.endsWith(")") ? "" : "\\b")).matcher(code).find(), "no " + word);
        }
        for (String sign : new String[] {"->", "::", "@", "\"", "[][][]"}) {
            check.holds(!code.contains(sign), "no " + sign);
        }
        Matcher imports = Pattern.compile("(?m)^import (.*);").matcher(code);
        while (imports.find()) {
            check.holds(imports.group(1).equals("java.util.Arrays"), "import " + imports.group(1));
        }
        check.holds(code.chars().allMatch(c -> c < 128), "plain signs");
        check.about("rule 11");
        int from = 0;
        boolean inMethod = false;
        String[] lines = whole.split("\n");
        for (int k = 0; k < lines.length; k++) {
            if (lines[k].matches(" {4,8}[\\w\\[\\] ]+\\(.*\\) \\{")) {
                from = k;
                inMethod = true;
            } else if (inMethod && lines[k].matches(" {4,8}\\}")) {
                check.holds(k - from < MOST_LINES, "the method at line " + (from + 1) + " is short");
                inMethod = false;
            }
        }
    }
}
