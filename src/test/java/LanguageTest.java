import java.io.IOException;
import java.lang.reflect.Field;
import java.lang.reflect.Method;
import java.lang.reflect.Modifier;
import java.nio.file.Files;
import java.nio.file.Paths;
import java.util.Set;
import java.util.TreeSet;

/** Those rules of ../shared/LANGUAGE.md that can be seen from the text and the names alone. */
public final class LanguageTest {
    private static final String SOURCE = "src/main/java/ParserParlour.java";
    private static final int MOST_CLASSES = 12, MOST_FIELDS = 20, MOST_PARAMETERS = 7, MOST_LINES = 60;
    private static final String[] RULED_OUT = {"\\bimport\\b", "\\bpackage\\b", "\\bfinally\\b", "\\bsynchronized\\b",
        "\\bassert\\b", "\\bcatch\\b", "->", "::", "\\bSystem\\.(?!arraycopy)", "\\bprotected\\b", "static \\{",
        "Exact\\b", "\\bequals\\(", "\\bhashCode\\(", "\\btoString\\(", "\"\\s*\\+", "\\+\\s*\""};

    public static void main(String[] args) throws IOException {
        String text = new String(Files.readAllBytes(Paths.get(SOURCE)), "ISO-8859-1");
        String code = text.replaceAll("(?s)/\\*.*?\\*/", "").replaceAll("//.*", "");
        for (String out : RULED_OUT) {
            Check.due("the source has " + out, 0, code.split(out, -1).length - 1);
        }
        for (int k = 0; k < text.length(); k++) {
            Check.due("the sign at " + k, 1, text.charAt(k) < 127 ? 1 : 0);
        }
        privateNamesAreOthers();
        sizesAreSmall();
        methodsAreShort(code.split("\n"));
        Check.end();
    }

    /** Rule 11: classes, their fields, and parameters. */
    private static void sizesAreSmall() {
        Class<?>[] inner = ParserParlour.class.getDeclaredClasses();
        Check.due("at most 12 classes", 1, inner.length < MOST_CLASSES ? 1 : 0);
        isSmall(ParserParlour.class);
        for (Class<?> owner : inner) {
            isSmall(owner);
        }
    }

    private static void isSmall(Class<?> owner) {
        int fields = 0;
        for (Field field : owner.getDeclaredFields()) {
            boolean constant = Modifier.isStatic(field.getModifiers()) && Modifier.isFinal(field.getModifiers());
            Check.due(field + " is static, but no constant", 0,
                    Modifier.isStatic(field.getModifiers()) && !constant ? 1 : 0);
            fields += constant ? 0 : 1;
        }
        Check.due(owner + " has at most 20 fields", 1, fields <= MOST_FIELDS ? 1 : 0);
        for (Method method : owner.getDeclaredMethods()) {
            Check.due(method + " has at most 7 parameters", 1, method.getParameterCount() <= MOST_PARAMETERS ? 1 : 0);
        }
    }

    /** Rule 11: the lines from a head of a method to the brace with the same indent. */
    private static void methodsAreShort(String[] lines) {
        int methods = 0;
        for (int head = 0; head < lines.length; head++) {
            boolean opens = lines[head].matches("( {4}| {8})[A-Za-z].*\\).*\\{");
            if (!opens || lines[head].matches(" +(if|for|while|switch) .*")) {
                continue;
            }
            String end = lines[head].replaceAll("\\S.*", "}");
            int last = head;
            while (last < lines.length && !lines[last].equals(end)) {
                last++;
            }
            Check.due("'" + lines[head].trim() + "' is short", 1, last - head < MOST_LINES ? 1 : 0);
            methods++;
        }
        Check.due("methods were found", 1, methods > 50 ? 1 : 0);
    }

    private static void privateNamesAreOthers() {
        Set<String> face = new TreeSet<>();
        for (Method method : ParserParlour.class.getDeclaredMethods()) {
            if (Modifier.isPublic(method.getModifiers())) {
                face.add(method.getName());
            }
        }
        areOthers(ParserParlour.class, face);
        for (Class<?> inner : ParserParlour.class.getDeclaredClasses()) {
            areOthers(inner, face);
        }
    }

    private static void areOthers(Class<?> owner, Set<String> face) {
        for (Method method : owner.getDeclaredMethods()) {
            boolean hidden = !Modifier.isPublic(method.getModifiers());
            Check.due(method + " bears a public name", 0, hidden && face.contains(method.getName()) ? 1 : 0);
        }
    }
}
