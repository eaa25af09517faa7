/** The sentences on refused calls and those of the promises that name an edge, each with its test. */
public final class EdgesOfPromisesTest extends Edges {
    public static void main(String[] args) {
        edge("A call that throws changes nothing.", EdgesOfPromisesTest::refusedCallsChangeNothing);
        edge("Where two exceptions apply, the one that is listed first is thrown.",
                EdgesOfPromisesTest::firstListedException);
        edge("1: A parlour without things; nothing was said yet.", EdgesOfPromisesTest::newObject);
        edge("2: Puts a thing into the room. Returns its number.", EdgesOfPromisesTest::thingGoesIntoTheRoom);
        edge("2: Throws IllegalArgumentException if noun or adjectives is out of its range",
                EdgesOfPromisesTest::thingOutOfRange);
        edge("2: Throws IllegalStateException if there are 12 things", EdgesOfPromisesTest::thingTooMany);
        edge("3: Returns ROOM, HAND, or the number of the box.", EdgesOfPromisesTest::placeOf);
        edge("3: Throws IndexOutOfBoundsException if there is no such thing", EdgesOfPromisesTest::noSuchThing);
        edge("4: Tells whether a thing is an open box.", EdgesOfPromisesTest::isOpen);
        edge("4: Throws IndexOutOfBoundsException if there is no such thing", EdgesOfPromisesTest::noSuchThing);
        edge("5: Returns the set of all things in reach.", EdgesOfPromisesTest::inReach);
        edge("6: Returns how many words there are then.", EdgesOfPromisesTest::wordCounts);
        edge("6: Throws IllegalArgumentException if there is no such word", EdgesOfPromisesTest::noSuchWord);
        edge("6: Throws IllegalStateException if there are 24 words", EdgesOfPromisesTest::wordTooMany);
        edge("7: Takes the last word back. Returns the word.", EdgesOfPromisesTest::back);
        edge("7: Throws IllegalStateException if there are no words", EdgesOfPromisesTest::backWithoutWords);
        edge("8: Ends the words .. Behind that there are no words.", EdgesOfPromisesTest::noWordsBehindSay);
        edge("8: Returns what became of them.", EdgesOfPromisesTest::whatBecameOfThem);
        edge("9: Returns what the last say() returned; NONE ahead of the first one.", EdgesOfPromisesTest::outcome);
        edge("10: Returns the place of the word at which the words of the last say() were wrong, if it returned WRONG",
                EdgesOfPromisesTest::wrongAtIfWrong);
        edge("10: or the place, in the order (the kept one behind an answer), of the last word of the phrase that "
                + "means NOTHING", EdgesOfPromisesTest::wrongAtIfNothing);
        edge("10: for a part with ALL or a plural the plural, or ALL, if it has none",
                EdgesOfPromisesTest::wrongAtOfAll);
        edge("10: otherwise NONE, also if it returned NOTHING as none of the things in question is left",
                EdgesOfPromisesTest::wrongAtOtherwise);
        edge("10: Places are counted from 0.", EdgesOfPromisesTest::firstAndLastPlace);
        edge("11: Returns the verb of the last order that was done; NONE if none was.", EdgesOfPromisesTest::verb);
        edge("12: Returns the things that the last order that was done meant, the one behind IN aside; 0 if none was "
                + "done.", EdgesOfPromisesTest::meant);
        edge("13: Returns those of these with which it was done.", EdgesOfPromisesTest::done);
        edge("14: Returns the thing behind IN of the last order that was done; NONE if it had none, or no order was "
                + "done.", EdgesOfPromisesTest::into);
        edge("15: Returns the things that the question is about; 0 if there is no question.",
                EdgesOfPromisesTest::asked);
        edge("16: Returns the place, in the kept order, of the last word of the phrase that the question is about; "
                + "NONE if there is no question.", EdgesOfPromisesTest::askedAt);
        edge("17: Returns how many times say() returned ASKED.", EdgesOfPromisesTest::questionsAreCounted);
        Check.end();
    }

    /** Says orders of every outcome that is not DONE, without a question behind them. */
    private static void saysWhatIsNotDone() {
        says("", EMPTY);
        says("the", NO_VERB);
        says("take", WRONG);
        says("take a5 one", NOTHING);
    }

    private static void seesTheSame(ParserParlour other, int things) {
        Check.due("inReach", other.inReach(), parlour.inReach());
        Check.due("outcome", other.outcome(), parlour.outcome());
        Check.due("wrongAt", other.wrongAt(), parlour.wrongAt());
        last(other.verb(), other.meant(), other.done(), other.into());
        question(other.asked(), other.askedAt());
        questions(other.questions());
        for (int k = 0; k < things; k++) {
            Check.due("placeOf " + k, other.placeOf(k), parlour.placeOf(k));
            open(k, other.isOpen(k));
        }
    }

    private static void refuseAll(int things, int words) {
        refusesThing(IllegalArgumentException.class, 8, 0);
        refusesThing(IllegalArgumentException.class, 0, 64);
        refusesWord(IllegalArgumentException.class, 5);
        refusesNumber(things);
        refusesNumber(-1);
        if (things == MOST_THINGS) {
            refusesThing(IllegalStateException.class, 0, 0);
        }
        if (words == 0) {
            refusesBack();
        }
        if (words == MOST_WORDS) {
            refusesWord(IllegalStateException.class, ParserParlour.NOUN);
        }
    }

    // ---- refused calls

    private static void refusedCallsChangeNothing() {
        String[][] talks = {
            {"open all", "take p0", "put them in n1", "take n0", "a0 n0"},
            {"take" + times("a0", 22) + "n0", "open n0", "n7", "one", "the", "a0"},
            {"take n0 and n0", "a0", "", "a1", "drop", "in"}};
        for (String[] talk : talks) {
            for (int things = 0; things <= MOST_THINGS; things += 4) {
                refusedBetween(talk, things);
            }
        }
    }

    /** The parlour hears calls that it refuses ahead of its things; another one does not. */
    private static void refusedBetween(String[] talk, int things) {
        ParserParlour other = new ParserParlour();
        parlour = new ParserParlour();
        for (int k = 0; k < things; k++) {
            refuseAll(k, 0);
            boolean box = k % 2 == 1;
            Check.due("the number", other.thing(k % 2, 1 << k / 2, box), parlour.thing(k % 2, 1 << k / 2, box));
        }
        for (String order : talk) {
            sayToBoth(other, order, things);
        }
    }

    private static void sayToBoth(ParserParlour other, String order, int things) {
        for (int word : Say.words(order)) {
            Check.due("word " + word, other.word(word), parlour.word(word));
        }
        refuseAll(things, Say.words(order).size());
        Check.due("say '" + order + "'", other.say(), parlour.say());
        refuseAll(things, 0);
        seesTheSame(other, things);
    }

    private static void firstListedException() {
        parlour = new ParserParlour();
        for (int k = 0; k < MOST_THINGS; k++) {
            parlour.thing(0, 0, false);
        }
        for (int k = 0; k < MOST_WORDS; k++) {
            parlour.word(0);
        }
        refusesThing(IllegalArgumentException.class, -1, 0);
        refusesThing(IllegalArgumentException.class, 8, 0);
        refusesThing(IllegalArgumentException.class, 0, -1);
        refusesThing(IllegalArgumentException.class, 0, 64);
        refusesThing(IllegalArgumentException.class, 8, 64);
        refusesThing(IllegalStateException.class, 7, 63);
        refusesWord(IllegalArgumentException.class, -1);
        refusesWord(IllegalArgumentException.class, 48);
        refusesWord(IllegalStateException.class, 47);
    }

    // ---- things

    private static void newObject() {
        parlour = new ParserParlour();
        reach(0);
        refusesNumber(0);
        refusesBack();
        Check.due("outcome", NONE, parlour.outcome());
        Check.due("wrongAt", NONE, parlour.wrongAt());
        last(NONE, 0, 0, NONE);
        question(0, NONE);
        questions(0);
        says("one", NO_VERB);
        nothing("open all", 1);
        nothing("shut it", 1);
        nothing("drop them", 1);
    }

    private static void thingGoesIntoTheRoom() {
        parlour = new ParserParlour();
        Check.due("the first number", 0, parlour.thing(0, 0, true));
        says("take n0", DONE);
        Check.due("the second number", 1, parlour.thing(1, 0, false));
        places(HAND, ROOM);
        reach(3);
        does("take all", 2, 2);
    }

    private static void thingOutOfRange() {
        parlour = new ParserParlour();
        refusesThing(IllegalArgumentException.class, -1, 0);
        refusesThing(IllegalArgumentException.class, 8, 0);
        refusesThing(IllegalArgumentException.class, 0, -1);
        refusesThing(IllegalArgumentException.class, 0, 64);
        refusesFarThings(IllegalArgumentException.class);
        reach(0);
        Check.due("the first number", 0, parlour.thing(0, 0, false));
        Check.due("the second number", 1, parlour.thing(7, 63, true));
        reach(3);
    }

    private static void thingTooMany() {
        named(MOST_THINGS - 1);
        Check.due("the last number", 11, parlour.thing(0, 0, false));
        refusesThing(IllegalStateException.class, 0, 0);
        refusesThing(IllegalStateException.class, 7, 63);
        // also if none of them is in the room
        says("take all", DONE);
        refusesThing(IllegalStateException.class, 0, 0);
        reach(ALL_THINGS);
    }

    private static void placeOf() {
        named(MOST_THINGS);
        says("open all", DONE);
        says("take all", DONE);
        Check.due("the first in the hand", HAND, parlour.placeOf(0));
        Check.due("the last in the hand", HAND, parlour.placeOf(11));
        does("put " + name(11) + " in " + name(0), 1 << 11, 1 << 11);
        Check.due("the last in the first", 0, parlour.placeOf(11));
        does("take " + name(11), 1 << 11, 1 << 11);
        does("put " + name(0) + " in " + name(11), 1, 1);
        Check.due("the first in the last", 11, parlour.placeOf(0));
        // also of a thing that is out of reach
        does("shut " + name(11), 1 << 11, 1 << 11);
        Check.due("the first in the last, shut", 11, parlour.placeOf(0));
        does("drop " + name(11), 1 << 11, 1 << 11);
        Check.due("the last in the room", ROOM, parlour.placeOf(11));
        Check.due("the first in the last", 11, parlour.placeOf(0));
    }

    private static void noSuchThing() {
        parlour = new ParserParlour();
        for (int k = 0; k <= MOST_THINGS; k++) {
            refusesNumber(k);
            refusesNumber(ROOM);
            refusesNumber(HAND);
            refusesNumber(NONE);
            refusesFarNumbers();
            if (k < MOST_THINGS) {
                parlour.thing(0, 0, true);
                Check.due("the last thing's place", ROOM, parlour.placeOf(k));
                open(k, false);
            }
        }
    }

    private static void isOpen() {
        named(1);
        parlour.thing(0, 1, false);
        open(0, false);
        open(1, false);
        does("open all", 1, 1);
        open(0, true);
        open(1, false);
        asks("open n0", 3, 1);
        says("take p0", DONE);
        open(0, true);
        does("shut n0", 1, 1);
        open(0, false);
        nothing("shut all", 1);
        open(0, false);
        // also of a box that is out of reach
        named(2);
        says("open all", DONE);
        says("take n1", DONE);
        says("put n1 in n0", DONE);
        says("shut n0", DONE);
        open(1, true);
    }

    private static void inReach() {
        parlour = new ParserParlour();
        reach(0);
        for (int k = 0; k < MOST_THINGS; k++) {
            parlour.thing(k % 8, 1 << k / 8, true);
            reach((2 << k) - 1);
        }
        says("open " + name(11), DONE);
        says("take all but " + name(11), DONE);
        does("put all in " + name(11), 0x7ff, 0x7ff);
        reach(ALL_THINGS);
        does("shut " + name(11), 0x800, 0x800);
        reach(0x800);
        nothing("take all but " + name(11), 1);
        does("open all", 0x800, 0x800);
        reach(ALL_THINGS);
    }

    // ---- words

    private static void wordCounts() {
        parlour = new ParserParlour();
        for (int k = 1; k <= MOST_WORDS; k++) {
            Check.due("how many words", k, parlour.word(ParserParlour.PLURAL));
        }
        parlour.back();
        Check.due("how many words", MOST_WORDS, parlour.word(ParserParlour.PLURAL));
        parlour.say();
        Check.due("how many words behind say()", 1, parlour.word(ParserParlour.PLURAL));
    }

    private static void noSuchWord() {
        parlour = new ParserParlour();
        for (int word = -70; word < 140; word++) {
            if (!isWord(word)) {
                refusesWord(IllegalArgumentException.class, word);
            }
        }
        refusesFarWords();
        refusesBack();
        Check.due("the first word", 1, parlour.word(0));
    }

    private static void wordTooMany() {
        things(1);
        parlour.word(0);
        for (int k = 2; k < MOST_WORDS; k++) {
            parlour.word(ParserParlour.ADJECTIVE);
        }
        Check.due("how many words", MOST_WORDS, parlour.word(ParserParlour.NOUN));
        refusesWord(IllegalStateException.class, ParserParlour.NOUN);
        refusesWord(IllegalStateException.class, 0);
        // full, taken back, and full once more
        Check.due("the last word", ParserParlour.NOUN, parlour.back());
        Check.due("how many words", MOST_WORDS, parlour.word(ParserParlour.ONE));
        refusesWord(IllegalStateException.class, ParserParlour.NOUN);
        does("", 1, 1);
    }

    private static void back() {
        things(1);
        for (int k = 0; k < MOST_WORDS; k++) {
            parlour.word(ParserParlour.PLURAL + k % 8);
        }
        for (int k = MOST_WORDS - 1; k >= 0; k--) {
            Check.due("the last word", ParserParlour.PLURAL + k % 8, parlour.back());
        }
        says("", EMPTY);
        parlour.word(0);
        parlour.word(4);
        Check.due("the last word", 4, parlour.back());
        does("n0", 1, 1);
    }

    private static void backWithoutWords() {
        things(1);
        refusesBack();
        parlour.word(0);
        Check.due("the only word", 0, parlour.back());
        refusesBack();
        says("", EMPTY);
        refusesBack();
        does("take n0", 1, 1);
        refusesBack();
        backDuringAQuestion();
    }

    private static void backDuringAQuestion() {
        things(2);
        asks("take n0", 3, 1);
        refusesBack();
        question(3, 1);
    }

    private static void noWordsBehindSay() {
        things(2);
        String[] orders = {"", "n0", "take", "take n7", "take n0", "n7", "one", "the", "a0", "drop n0"};
        for (String order : orders) {
            Say.say(parlour, order);
            refusesBack();
            Check.due("the first word behind '" + order + "'", 1, parlour.word(0));
            parlour.back();
        }
        Check.due("done at last", DONE, parlour.outcome());
    }

    // ---- meanings

    private static void whatBecameOfThem() {
        things(2);
        saysWhatIsNotDone();
        says("take n0", ASKED);
        says("", EMPTY);
        says("the", WRONG);
        says("n7", NOTHING);
        says("one", ASKED);
        says("a0", DONE);
        saysWhatIsNotDone();
        says("drop n0", DONE);
    }

    private static void outcome() {
        parlour = new ParserParlour();
        Check.due("outcome", NONE, parlour.outcome());
        parlour.thing(0, 0, false);
        parlour.word(0);
        Check.due("outcome", NONE, parlour.outcome());
        parlour.back();
        saysWhatIsNotDone();
        says("take n0", DONE);
        parlour.word(0);
        refusesNumber(1);
        Check.due("outcome until the next say()", DONE, parlour.outcome());
        says("", WRONG);
    }

    private static void wrongAtIfWrong() {
        things(2);
        wrong("take", 1);
        wrong("take n0 n0", 2);
        wrong("take" + times("a0", 23), 24);
        wrong("take" + times("it and", 11) + "and", 23);
        asks("take n0", 3, 1);
        wrong("the", 1);
        wrong("p0", 0);
        wrong(times("a0", 23) + "take", 23);
        parlour.word(ParserParlour.ADJECTIVE);
        Check.due("wrongAt until the next say()", 23, parlour.wrongAt());
        does("", 1, 1);
    }

    private static void wrongAtIfNothing() {
        things(2);
        nothing("take it", 1);
        nothing("take n7", 1);
        nothing("take the a0 a1 one", 4);
        nothing("take all but the a0 n7", 5);
        nothing("take" + times("a0", 22) + "n7", 23);
        nothing("take a0 n0" + times("and a0 n0", 6) + "and n7", 22);
        nothing("put a0 n0 and a1 n0 in the n7", 8);
        // in the kept order, however long the answer was
        asks("open n0 and it", 3, 1);
        nothing("the" + times("a0", 22) + "one", 3);
        asks("put a0 n0 and a0 n0 and a0 n0 and n0 in n7", 3, 10);
        nothing("a0", 12);
        asks("put all but n0 in n7", 3, 3);
        nothing("a0", 1);
    }

    private static void wrongAtOfAll() {
        things(2);
        nothing("drop all", 1);
        nothing("drop all but a0 n0", 1);
        nothing("drop p0", 1);
        nothing("drop the p0", 2);
        nothing("drop the a0 a1 p0 but a0 n0", 4);
        nothing("drop all p0 but a0 n0", 2);
        nothing("drop all a0 p0 but a0 n0 and a1 n0", 3);
        nothing("take all but a0 n0 and a1 n0", 1);
        nothing("take a0 n0 and all a1 p0 but a1 n0", 6);
        nothing("take a0 n0 and all but a0 n0 and a1 n0", 4);
        nothing("take a0 n0 and them", 4);
    }

    private static void wrongAtOtherwise() {
        things(2);
        wrong("take", 1);
        says("", EMPTY);
        Check.due("wrongAt behind EMPTY", NONE, parlour.wrongAt());
        wrong("take", 1);
        says("n0 n0", NO_VERB);
        Check.due("wrongAt behind NO_VERB", NONE, parlour.wrongAt());
        wrong("take", 1);
        says("take n0", ASKED);
        Check.due("wrongAt behind ASKED", NONE, parlour.wrongAt());
        wrong("the", 1);
        nothing("n7", NONE);
        wrong("the", 1);
        says("one", ASKED);
        Check.due("wrongAt behind an answer that asks on", NONE, parlour.wrongAt());
        wrong("the", 1);
        says("", EMPTY);
        Check.due("wrongAt behind no answer", NONE, parlour.wrongAt());
        wrong("the", 1);
        says("a0", DONE);
        Check.due("wrongAt behind DONE", NONE, parlour.wrongAt());
    }

    private static void firstAndLastPlace() {
        things(2);
        asks("take n0", 3, 1);
        wrong("all", 0);
        wrong("a0 all", 1);
        wrong(times("a0", 23) + "all", 23);
        wrong("take" + times("a0", 22) + "all", 23);
        nothing("take" + times("a0", 22) + "n7", 23);
        nothing("take n7", 1);
        asks("take a0 n0" + times("and a0 n0", 6) + "and n0", 3, 22);
    }

    private static void verb() {
        named(1);
        Check.due("verb", NONE, parlour.verb());
        saysWhatIsNotDone();
        Check.due("verb", NONE, parlour.verb());
        String[] orders = {"take n0", "drop n0", "put n0 in n0", "open n0", "shut n0"};
        for (int verb = 0; verb < orders.length; verb++) {
            says(orders[verb], DONE);
            Check.due("verb", verb, parlour.verb());
            saysWhatIsNotDone();
            Check.due("verb", verb, parlour.verb());
        }
    }

    private static void meant() {
        named(MOST_THINGS);
        Check.due("meant", 0, parlour.meant());
        saysWhatIsNotDone();
        Check.due("meant", 0, parlour.meant());
        does("take all", ALL_THINGS, ALL_THINGS);
        does("open " + name(11), 1 << 11, 1 << 11);
        // the one behind IN aside, but not if the group means it, too
        does("put " + name(0) + " in " + name(11), 1, 1);
        does("put all in " + name(11), 0xffe, 0x7fe);
        saysWhatIsNotDone();
        Check.due("meant", 0xffe, parlour.meant());
    }

    private static void done() {
        named(2);
        Check.due("done", 0, parlour.done());
        saysWhatIsNotDone();
        Check.due("done", 0, parlour.done());
        does("take n0", 1, 1);
        does("take n0", 1, 0);
        does("take n0 and n1", 3, 2);
        does("shut n0 and n1", 3, 0);
        does("open n0 and n1", 3, 3);
        says("drop n7", NOTHING);
        Check.due("done", 3, parlour.done());
    }

    private static void into() {
        named(MOST_THINGS);
        Check.due("into", NONE, parlour.into());
        nothing("put all in n7", 1);
        Check.due("into", NONE, parlour.into());
        does("put " + name(1) + " in " + name(0), 2, 0);
        Check.due("into", 0, parlour.into());
        nothing("put " + name(1) + " in a5 n0", 5);
        says("put", WRONG);
        says("in " + name(1), NO_VERB);
        Check.due("into", 0, parlour.into());
        does("put " + name(1) + " in " + name(11), 2, 0);
        Check.due("into", 11, parlour.into());
        does("take " + name(11), 1 << 11, 1 << 11);
        Check.due("into, of an order that has no IN", NONE, parlour.into());
    }

    private static void asked() {
        parlour = new ParserParlour();
        for (int k = 0; k < MOST_THINGS; k++) {
            parlour.thing(0, k == 0 || k == 11 ? 1 : 0, false);
        }
        question(0, NONE);
        asks("take n0", ALL_THINGS, 1);
        asks("a0", 0x801, 1);
        asks("take a0 n0", 0x801, 2);
        nothing("take n7", 1);
        question(0, NONE);
        asks("take n0", ALL_THINGS, 1);
        does("take all", ALL_THINGS, ALL_THINGS);
        question(0, NONE);
        asks("take n0", ALL_THINGS, 1);
        wrong("take", 1);
        question(0, NONE);
    }

    private static void askedAt() {
        things(2);
        question(0, NONE);
        saysWhatIsNotDone();
        question(0, NONE);
        asks("take n0", 3, 1);
        asks("take the n0", 3, 2);
        asks("put a0 n0 in n0", 3, 4);
        asks("take" + times("a0 n0 and", 7) + "n0", 3, 22);
        asks("the one", 3, 22);
        wrong("the", 1);
        nothing("n7", NONE);
        says("", EMPTY);
        question(3, 22);
        does("a1", 3, 3);
        question(0, NONE);
    }

    private static void questionsAreCounted() {
        things(2);
        saysWhatIsNotDone();
        questions(0);
        says("open n0 and n0", ASKED);
        questions(1);
        says("one", ASKED);
        questions(2);
        says("n7", NOTHING);
        says("the", WRONG);
        says("", EMPTY);
        questions(2);
        says("a0", ASKED);
        questions(3);
        says("a0", DONE);
        saysWhatIsNotDone();
        questions(3);
        for (int count = 4; count <= 40; count++) {
            says("take n0", ASKED);
            questions(count);
        }
    }
}
