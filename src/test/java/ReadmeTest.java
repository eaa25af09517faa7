import java.io.IOException;
import java.lang.reflect.InvocationTargetException;
import java.lang.reflect.Method;
import java.nio.file.Files;
import java.nio.file.Paths;
import java.util.regex.Matcher;
import java.util.regex.Pattern;

/** The examples of README.md, line by line: what stands behind "->" is what the call answers. */
public final class ReadmeTest {
    private static final String NEW_PARLOUR = "ParserParlour parlour = new ParserParlour();";
    private static final Pattern CALL = Pattern.compile("parlour\\.(\\w+)\\((.*)\\); +// -> (\\S+).*");
    private static final int LEAST_CALLS = 40;

    private static ParserParlour parlour;
    private static int calls = 0;

    public static void main(String[] args) throws ReflectiveOperationException, IOException {
        boolean inExample = false;
        for (String line : Files.readAllLines(Paths.get("README.md"))) {
            if (line.startsWith("```")) {
                inExample = line.equals("```java");
            } else if (inExample) {
                oneLine(line);
            }
        }
        Check.due("the examples have enough calls", 1, calls >= LEAST_CALLS ? 1 : 0);
        Check.end();
    }

    private static void oneLine(String line) throws ReflectiveOperationException {
        if (line.equals(NEW_PARLOUR)) {
            parlour = new ParserParlour();
            return;
        }
        Matcher call = CALL.matcher(line);
        boolean readable = call.matches();
        Check.due("'" + line + "' can be read", 1, readable ? 1 : 0);
        if (readable) {
            calls++;
            String want = call.group(3);
            String got = answer(call.group(1), call.group(2));
            boolean same = got.equals(want) || want.matches("[A-Z_]+") && got.equals("" + constant(want));
            Check.due("'" + line + "' holds (the call answers " + got + ")", 1, same ? 1 : 0);
        }
    }

    /** What a call answers, or the name of what it throws. */
    private static String answer(String name, String list) throws ReflectiveOperationException {
        String[] texts = list.isEmpty() ? new String[0] : list.split(", ");
        Object[] values = new Object[texts.length];
        Class<?>[] types = new Class<?>[texts.length];
        for (int k = 0; k < texts.length; k++) {
            boolean flag = texts[k].equals("true") || texts[k].equals("false");
            types[k] = flag ? boolean.class : int.class;
            values[k] = flag ? (Object) Boolean.valueOf(texts[k]) : (Object) number(texts[k]);
        }
        Method method = ParserParlour.class.getMethod(name, types);
        try {
            return String.valueOf(method.invoke(parlour, values));
        } catch (InvocationTargetException e) {
            return e.getCause().getClass().getSimpleName();
        }
    }

    /** A sum of numbers and constants: "9" or "ParserParlour.NOUN + 0". */
    private static Integer number(String text) throws ReflectiveOperationException {
        int sum = 0;
        for (String term : text.split(" \\+ ")) {
            boolean named = term.startsWith("ParserParlour.");
            sum += named ? constant(term.substring(term.indexOf('.') + 1)) : Integer.parseInt(term);
        }
        return sum;
    }

    private static int constant(String name) throws ReflectiveOperationException {
        return ParserParlour.class.getField(name).getInt(null);
    }
}
