import java.util.ArrayList;
import java.util.List;

/** Words as texts, for tests that are read: "take the a0 n1" or "put all but it in p2". */
final class Say {
    private static final String[] VERBS = {"take", "drop", "put", "open", "shut"};
    private static final String[] SMALL = {"the", "all", "but", "and", "it", "them", "in", "one"};

    private Say() {
    }

    static List<Integer> words(String text) {
        List<Integer> words = new ArrayList<>();
        for (String part : text.trim().split(" +")) {
            if (!part.isEmpty()) {
                words.add(word(part));
            }
        }
        return words;
    }

    private static int word(String part) {
        for (int k = 0; k < VERBS.length; k++) {
            if (VERBS[k].equals(part)) {
                return ParserParlour.TAKE + k;
            }
        }
        for (int k = 0; k < SMALL.length; k++) {
            if (SMALL[k].equals(part)) {
                return ParserParlour.THE + k;
            }
        }
        int number = Integer.parseInt(part.substring(1));
        switch (part.charAt(0)) {
            case 'a':
                return ParserParlour.ADJECTIVE + number;
            case 'n':
                return ParserParlour.NOUN + number;
            case 'p':
                return ParserParlour.PLURAL + number;
            default:
                throw new IllegalArgumentException(part);
        }
    }

    /** Says the words to the parlour; returns what became of them. */
    static int say(ParserParlour parlour, String text) {
        for (int word : words(text)) {
            parlour.word(word);
        }
        return parlour.say();
    }
}
