import java.io.IOException;
import java.lang.reflect.Method;
import java.lang.reflect.Modifier;
import java.nio.file.Files;
import java.nio.file.Paths;
import java.util.Set;
import java.util.TreeSet;

/** Those rules of ../shared/LANGUAGE.md that can be seen from the text and the names alone. */
public final class LanguageTest {
    private static final String SOURCE = "src/main/java/ParserParlour.java";
    private static final String[] RULED_OUT = {"\\bimport\\b", "\\bpackage\\b", "\\bfinally\\b", "\\bsynchronized\\b",
        "\\bassert\\b", "\\bcatch\\b", "->", "::", "\\bSystem\\.(?!arraycopy)", "\\bprotected\\b", "static \\{",
        "Exact\\b", "\\bequals\\(", "\\bhashCode\\(", "\\btoString\\(", "\"\\s*\\+", "\\+\\s*\""};

    public static void main(String[] args) throws IOException {
        String text = new String(Files.readAllBytes(Paths.get(SOURCE)), "ISO-8859-1");
        String code = text.replaceAll("(?s)/\\*.*?\\*/", "").replaceAll("//.*", "");
        for (String out : RULED_OUT) {
            Check.due("the source has " + out, 0, code.split(out, -1).length - 1);
        }
        for (int k = 0; k < text.length(); k++) {
            Check.due("the sign at " + k, 1, text.charAt(k) < 127 ? 1 : 0);
        }
        privateNamesAreOthers();
        Check.end();
    }

    private static void privateNamesAreOthers() {
        Set<String> face = new TreeSet<>();
        for (Method method : ParserParlour.class.getDeclaredMethods()) {
            if (Modifier.isPublic(method.getModifiers())) {
                face.add(method.getName());
            }
        }
        areOthers(ParserParlour.class, face);
        for (Class<?> inner : ParserParlour.class.getDeclaredClasses()) {
            areOthers(inner, face);
        }
    }

    private static void areOthers(Class<?> owner, Set<String> face) {
        for (Method method : owner.getDeclaredMethods()) {
            boolean hidden = !Modifier.isPublic(method.getModifiers());
            Check.due(method + " bears a public name", 0, hidden && face.contains(method.getName()) ? 1 : 0);
        }
    }
}
