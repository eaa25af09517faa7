/** A parlour on trial: small worlds for it, what is said to it, and what is due then. */
abstract class Trial {
    static final int NONE = -1, ROOM = -2, HAND = -3;
    static final int DONE = 0, ASKED = 1, EMPTY = 2, NO_VERB = 3, WRONG = 4, NOTHING = 5;

    static ParserParlour parlour;
    /** What was said last, to be told with a wrong answer. */
    private static String said = "";

    // ---- worlds

    /** Boxes with the nouns 0, 1, .., without adjectives; all in the room, and open. */
    static void openBoxes(int count) {
        parlour = new ParserParlour();
        for (int k = 0; k < count; k++) {
            parlour.thing(k, 0, true);
        }
        says("open all", DONE);
    }

    /** Things with the noun 0, the thing k with the adjective k alone; all in the room. */
    static void things(int count) {
        parlour = new ParserParlour();
        for (int k = 0; k < count; k++) {
            parlour.thing(0, 1 << k, false);
        }
    }

    // ---- what is due

    static void says(String words, int want) {
        said = words;
        Check.due("say '" + words + "'", want, Say.say(parlour, words));
        Check.due("outcome behind '" + words + "'", want, parlour.outcome());
    }

    static void does(String words, int meant, int done) {
        says(words, DONE);
        Check.due("meant behind '" + words + "'", meant, parlour.meant());
        Check.due("done behind '" + words + "'", done, parlour.done());
        Check.due("wrongAt behind '" + words + "'", NONE, parlour.wrongAt());
        question(0, NONE);
    }

    static void asks(String words, int things, int place) {
        int before = parlour.questions();
        says(words, ASKED);
        Check.due("wrongAt behind '" + words + "'", NONE, parlour.wrongAt());
        Check.due("questions behind '" + words + "'", before + 1, parlour.questions());
        question(things, place);
    }

    static void question(int things, int place) {
        Check.due("asked behind '" + said + "'", things, parlour.asked());
        Check.due("askedAt behind '" + said + "'", place, parlour.askedAt());
    }

    static void nothing(String words, int place) {
        says(words, NOTHING);
        Check.due("wrongAt behind '" + words + "'", place, parlour.wrongAt());
    }

    static void wrong(String words, int place) {
        says(words, WRONG);
        Check.due("wrongAt behind '" + words + "'", place, parlour.wrongAt());
    }

    static void places(int... want) {
        for (int k = 0; k < want.length; k++) {
            Check.due("placeOf " + k + " behind '" + said + "'", want[k], parlour.placeOf(k));
        }
    }

    static void open(int thing, boolean want) {
        Check.due("isOpen " + thing + " behind '" + said + "'", want ? 1 : 0, parlour.isOpen(thing) ? 1 : 0);
    }

    static void last(int verb, int meant, int done, int into) {
        Check.due("verb behind '" + said + "'", verb, parlour.verb());
        Check.due("meant behind '" + said + "'", meant, parlour.meant());
        Check.due("done behind '" + said + "'", done, parlour.done());
        Check.due("into behind '" + said + "'", into, parlour.into());
    }

    static boolean isWord(int word) {
        return word >= 0 && word <= 4 || word >= 10 && word <= 17 || word >= 20 && word <= 25
                || word >= 30 && word <= 37 || word >= 40 && word <= 47;
    }
}
