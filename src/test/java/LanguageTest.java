import java.lang.reflect.Method;
import java.lang.reflect.Modifier;
import java.nio.file.Files;
import java.nio.file.Path;
import java.util.Set;
import java.util.TreeSet;
import java.util.regex.Matcher;
import java.util.regex.Pattern;

/**
 * What of ../shared/LANGUAGE.md can be seen from the text and the compiled class, and that the
 * face is the document's. Argument: the project's folder.
 */
public final class LanguageTest {
    private static final int MOST_LINES = 60;
    private static final int MOST_PARAMETERS = 7;
    private static final int MOST_CLASSES = 12;
    private static final int MOST_FIELDS = 20;
    private static int wrong = 0;

    public static void main(String[] args) throws Exception {
        Path here = Path.of(args.length > 0 ? args[0] : ".");
        String source = Files.readString(here.resolve("src/main/java/OneTwoOneTwo.java"));
        String code = withoutTexts(source);
        nothingForbidden(code);
        objectsAreMadeOnce(code);
        methodsAreShort(code);
        faceIsTheDocuments(Files.readString(here.resolve("../shared/DOC.md")));
        namesAreApart();
        System.out.println(wrong == 0 ? "the language is kept" : wrong + " rules are not kept");
        if (wrong != 0) {
            System.exit(1);
        }
    }

    private static void tell(String what) {
        wrong++;
        System.out.println(what);
    }

    private static String withoutTexts(String source) {
        return source.replaceAll("(?s)/\\*.*?\\*/", "").replaceAll("//[^\n]*", "").replaceAll("\"[^\"\n]*\"", "\"\"");
    }

    private static void nothingForbidden(String code) {
        String[] words = {"import", "package", "throw", "throws", "try", "catch", "finally", "synchronized", "assert",
            "volatile", "transient", "native", "var", "Object", "Exception", "System\\.(?!arraycopy)", "->", "::", "\\w+Exact",
            "protected", "this\\s*\\)", "\\[\\]\\[\\]\\[\\]", "static\\s*\\{", "(hashCode|toString|equals)\\s*\\("};
        for (String word : words) {
            Matcher m = Pattern.compile(word.matches("\\w+") ? "\\b" + word + "\\b" : word).matcher(code);
            if (m.find()) {
                tell("the class has " + m.group());
            }
        }
    }

    /** Rows are made with the object and used again: only fields and the constructor make any. */
    private static void objectsAreMadeOnce(String code) {
        for (String line : code.split("\n")) {
            boolean field = line.matches("\\s*(private )?final [\\w\\[\\]]+ \\w+ = new .*");
            if (line.contains("new ") && !field && !line.trim().equals("shelves[s] = new Shelf();")) {
                tell("an object is made in: " + line.trim());
            }
        }
    }

    private static void methodsAreShort(String code) {
        String[] lines = code.split("\n");
        int start = 0;
        for (int i = 0; i < lines.length; i++) {
            if (lines[i].matches(" {4}( {4})?[\\w\\[\\] ]+\\([^=;]*\\) \\{")) {
                start = i;
            }
            boolean ends = lines[i].matches(" {4}( {4})?\\}");
            if (ends && i - start + 1 > MOST_LINES && lines[start].indexOf('(') > 0 && indent(lines[i]) == indent(lines[start])) {
                tell("more than " + MOST_LINES + " lines: " + lines[start].trim());
            }
        }
    }

    private static int indent(String line) {
        return line.length() - line.stripLeading().length();
    }

    private static void faceIsTheDocuments(String document) {
        Set<String> want = new TreeSet<>();
        Matcher m = Pattern.compile("    public (int|long) (\\w+)\\(([^)]*)\\);").matcher(document);
        while (m.find()) {
            want.add(m.group(1) + " " + m.group(2) + "(" + m.group(3).replaceAll(" \\w+(,|$)", "$1").replace(" ", "") + ")");
        }
        Set<String> got = new TreeSet<>();
        for (Method method : OneTwoOneTwo.class.getDeclaredMethods()) {
            if (!Modifier.isPrivate(method.getModifiers())) {
                StringBuilder types = new StringBuilder();
                for (Class<?> type : method.getParameterTypes()) {
                    types.append(types.length() == 0 ? "" : ",").append(type.getName());
                }
                got.add(method.getReturnType() + " " + method.getName() + "(" + types + ")");
            }
        }
        if (want.isEmpty() || !want.equals(got)) {
            tell("the face is " + got + ", due is " + want);
        }
        if (!Modifier.isFinal(OneTwoOneTwo.class.getModifiers())) {
            tell("the class is not final");
        }
    }

    private static void namesAreApart() {
        Set<String> face = new TreeSet<>();
        for (Method method : OneTwoOneTwo.class.getDeclaredMethods()) {
            if (Modifier.isPublic(method.getModifiers())) {
                face.add(method.getName());
            }
        }
        Class<?>[] inside = OneTwoOneTwo.class.getDeclaredClasses();
        if (inside.length + 1 > MOST_CLASSES) {
            tell("too many classes");
        }
        look(OneTwoOneTwo.class, face);
        for (Class<?> type : inside) {
            if (!Modifier.isStatic(type.getModifiers())) {
                tell(type + " is not static");
            }
            look(type, face);
        }
    }

    private static void look(Class<?> type, Set<String> face) {
        for (Method method : type.getDeclaredMethods()) {
            boolean own = type != OneTwoOneTwo.class || Modifier.isPrivate(method.getModifiers());
            if (own && face.contains(method.getName())) {
                tell(method + " bears a name of the face");
            }
            if (method.getParameterCount() > MOST_PARAMETERS) {
                tell(method + " takes too many");
            }
        }
        int fields = 0;
        for (java.lang.reflect.Field field : type.getDeclaredFields()) {
            if (Modifier.isStatic(field.getModifiers()) && !Modifier.isFinal(field.getModifiers())) {
                tell(field + " is static and not final");
            }
            fields += Modifier.isStatic(field.getModifiers()) ? 0 : 1;
        }
        if (fields > MOST_FIELDS) {
            tell(type + " has too many fields");
        }
    }
}
