import java.lang.reflect.Field;
import java.lang.reflect.Member;
import java.lang.reflect.Method;
import java.lang.reflect.Modifier;
import java.util.Arrays;
import java.util.Map;
import java.util.TreeMap;
import java.util.TreeSet;

/** The public face: its constants, its methods and what they throw, and nothing else. */
public final class FaceTest {
    private static final String[] CONSTANTS = {
        "NONE=-1", "ROOM=-2", "HAND=-3", "TAKE=0", "DROP=1", "PUT=2", "OPEN=3", "SHUT=4",
        "THE=10", "ALL=11", "BUT=12", "AND=13", "IT=14", "THEM=15", "IN=16", "ONE=17",
        "ADJECTIVE=20", "NOUN=30", "PLURAL=40",
        "DONE=0", "ASKED=1", "EMPTY=2", "NO_VERB=3", "WRONG=4", "NOTHING=5"};
    private static final String[] METHODS = {
        "int thing[int, int, boolean][IllegalArgumentException, IllegalStateException]",
        "int placeOf[int][IndexOutOfBoundsException]",
        "boolean isOpen[int][IndexOutOfBoundsException]",
        "int inReach[][]",
        "int word[int][IllegalArgumentException, IllegalStateException]",
        "int back[][IllegalStateException]",
        "int say[][]", "int outcome[][]", "int wrongAt[][]", "int verb[][]", "int meant[][]",
        "int done[][]", "int into[][]", "int asked[][]", "int askedAt[][]", "int questions[][]"};

    public static void main(String[] args) throws IllegalAccessException {
        constantsAreDue();
        methodsAreDue();
        nothingElseIsSeen();
        Check.end();
    }

    private static void constantsAreDue() throws IllegalAccessException {
        Map<String, Integer> want = new TreeMap<>();
        for (String constant : CONSTANTS) {
            String[] sides = constant.split("=");
            want.put(sides[0], Integer.valueOf(sides[1]));
        }
        Map<String, Integer> got = new TreeMap<>();
        for (Field field : ParserParlour.class.getDeclaredFields()) {
            if (Modifier.isPublic(field.getModifiers())) {
                got.put(field.getName(), field.getInt(null));
            }
        }
        due("the constants", want.toString(), got.toString());
    }

    private static void methodsAreDue() {
        TreeSet<String> got = new TreeSet<>();
        for (Method method : ParserParlour.class.getDeclaredMethods()) {
            if (Modifier.isPublic(method.getModifiers())) {
                got.add(method.getReturnType().getSimpleName() + " " + method.getName()
                        + names(method.getParameterTypes()) + names(method.getExceptionTypes()));
            }
        }
        due("the methods", new TreeSet<>(Arrays.asList(METHODS)).toString(), got.toString());
        due("the constructors", "[public ParserParlour()]",
                Arrays.toString(ParserParlour.class.getDeclaredConstructors()));
    }

    private static void nothingElseIsSeen() {
        Check.due("public and final", Modifier.PUBLIC | Modifier.FINAL, ParserParlour.class.getModifiers());
        for (Field field : ParserParlour.class.getDeclaredFields()) {
            isPublicOrPrivate(field);
        }
        for (Method method : ParserParlour.class.getDeclaredMethods()) {
            isPublicOrPrivate(method);
        }
        for (Class<?> inner : ParserParlour.class.getDeclaredClasses()) {
            Check.due(inner + " is static", 1, Modifier.isStatic(inner.getModifiers()) ? 1 : 0);
            Check.due(inner + " is public", 0, Modifier.isPublic(inner.getModifiers()) ? 1 : 0);
        }
    }

    private static void isPublicOrPrivate(Member member) {
        boolean seen = !Modifier.isPublic(member.getModifiers()) && !Modifier.isPrivate(member.getModifiers());
        Check.due(member + " is seen from outside", 0, seen && !member.isSynthetic() ? 1 : 0);
    }

    private static String names(Class<?>[] types) {
        String[] names = new String[types.length];
        for (int k = 0; k < types.length; k++) {
            names[k] = types[k].getSimpleName();
        }
        return Arrays.toString(names);
    }

    private static void due(String what, String want, String got) {
        if (!want.equals(got)) {
            System.out.println(what + " are " + got + ", due is " + want);
        }
        Check.due(what + " are as the document says", 1, want.equals(got) ? 1 : 0);
    }
}
