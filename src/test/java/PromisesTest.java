/** Each promise by itself: ordinary inputs, the edges that the document names, wrong inputs. */
public final class PromisesTest extends Trial {
    public static void main(String[] args) {
        promise1NewObject();
        promise2Thing();
        promise3PlaceOf();
        promise4IsOpen();
        promise5InReach();
        promise6Word();
        promise7Back();
        promise8Say();
        promise8Singles();
        promise8AllAndPlurals();
        promise8But();
        promise8It();
        promise8Them();
        promise8OrderOfFinding();
        promise8DoingByRisingNumbers();
        promise8PutInto();
        promise8Answers();
        promise8KeptOrder();
        promise8ThingsDuringAQuestion();
        promise9Outcome();
        promise10WrongAtInOrders();
        promise10WrongAtInAnswers();
        promise10NothingAt();
        promises11To14LastDoneOrder();
        promises15And16Question();
        promise17Questions();
        Check.end();
    }

    // ---- the promises

    private static void promise1NewObject() {
        parlour = new ParserParlour();
        Check.due("inReach at first", 0, parlour.inReach());
        Check.due("outcome at first", NONE, parlour.outcome());
        Check.due("wrongAt at first", NONE, parlour.wrongAt());
        Check.due("questions at first", 0, parlour.questions());
        last(NONE, 0, 0, NONE);
        question(0, NONE);
        Check.throwsA(IndexOutOfBoundsException.class, "placeOf(0) at first", () -> parlour.placeOf(0));
        Check.throwsA(IndexOutOfBoundsException.class, "isOpen(0) at first", () -> parlour.isOpen(0));
        Check.throwsA(IllegalStateException.class, "back() at first", () -> parlour.back());
        says("", EMPTY);
        nothing("take it", 1);
        nothing("take them", 1);
        nothing("take all", 1);
    }

    private static void promise2Thing() {
        parlour = new ParserParlour();
        int[][] wrong = {{-1, 0}, {8, 0}, {0, -1}, {0, 64}, {8, 64}, {Integer.MAX_VALUE, 0}, {Integer.MIN_VALUE, 0},
            {0, Integer.MAX_VALUE}, {0, Integer.MIN_VALUE}};
        for (int[] pair : wrong) {
            Check.throwsA(IllegalArgumentException.class, "thing " + pair[0] + " " + pair[1],
                    () -> parlour.thing(pair[0], pair[1], true));
        }
        for (int k = 0; k < 12; k++) {
            Check.due("a thing's number", k, parlour.thing(k % 8, k == 11 ? 63 : k, k % 2 == 0));
            Check.due("a thing's place", ROOM, parlour.placeOf(k));
            Check.due("the things", (2 << k) - 1, parlour.inReach());
            open(k, false);
        }
        Check.throwsA(IllegalStateException.class, "a thing too many", () -> parlour.thing(7, 63, false));
        Check.throwsA(IllegalArgumentException.class, "a wrong noun, too many", () -> parlour.thing(8, 0, false));
        Check.throwsA(IllegalArgumentException.class, "a wrong set, too many", () -> parlour.thing(0, 64, false));
        Check.due("the things behind calls that throw", 4095, parlour.inReach());
        Check.throwsA(IndexOutOfBoundsException.class, "placeOf(12)", () -> parlour.placeOf(12));
        does("open all", 0x555, 0x555);
        does("take a0 a1 a2 a3 a4 a5 n3", 1 << 11, 1 << 11);
        does("take p7", 1 << 7, 1 << 7);
    }

    private static void promise3PlaceOf() {
        openBoxes(2);
        places(ROOM, ROOM);
        says("take n0", DONE);
        places(HAND, ROOM);
        says("put n0 in n1", DONE);
        places(1, ROOM);
        says("take n1", DONE);
        places(1, HAND);
        says("take n0", DONE);
        says("drop n0", DONE);
        places(ROOM, HAND);
        for (int no : new int[] {-1, 2, 12, ROOM, HAND, Integer.MAX_VALUE, Integer.MIN_VALUE}) {
            Check.throwsA(IndexOutOfBoundsException.class, "placeOf " + no, () -> parlour.placeOf(no));
        }
    }

    private static void promise4IsOpen() {
        parlour = new ParserParlour();
        parlour.thing(0, 0, true);
        parlour.thing(1, 0, false);
        does("open n1", 2, 0);
        open(0, false);
        open(1, false);
        does("open n0", 1, 1);
        open(0, true);
        does("open n0", 1, 0);
        open(0, true);
        does("shut n0", 1, 1);
        open(0, false);
        does("shut n0", 1, 0);
        open(0, false);
        for (int no : new int[] {-1, 2, 12, 32, Integer.MAX_VALUE, Integer.MIN_VALUE}) {
            Check.throwsA(IndexOutOfBoundsException.class, "isOpen " + no, () -> parlour.isOpen(no));
        }
    }

    private static void promise5InReach() {
        openBoxes(4);
        says("take n0", DONE);
        says("put n0 in n1", DONE);
        says("take n1", DONE);
        says("put n1 in n2", DONE);
        Check.due("inReach, all open", 0b1111, parlour.inReach());
        says("shut n1", DONE);
        Check.due("inReach, the inner box shut", 0b1110, parlour.inReach());
        nothing("take n0", 1);
        says("shut n2", DONE);
        Check.due("inReach, both boxes shut", 0b1100, parlour.inReach());
        says("take n2", DONE);
        Check.due("inReach, the outer box in the hand", 0b1100, parlour.inReach());
        says("open n2", DONE);
        Check.due("inReach, the outer box open", 0b1110, parlour.inReach());
        says("open n1", DONE);
        says("shut n2", DONE);
        Check.due("inReach, an open box in a shut one", 0b1100, parlour.inReach());
        open(1, true);
    }

    private static void promise6Word() {
        parlour = new ParserParlour();
        int count = 0;
        for (int word = -40; word < 90; word++) {
            int tried = word;
            if (!isWord(word)) {
                Check.throwsA(IllegalArgumentException.class, "word " + word, () -> parlour.word(tried));
            } else if (count < 24) {
                count++;
                Check.due("word " + word, count, parlour.word(word));
            } else {
                Check.throwsA(IllegalStateException.class, "word " + word, () -> parlour.word(tried));
            }
        }
        for (int no : new int[] {Integer.MAX_VALUE, Integer.MIN_VALUE, Integer.MIN_VALUE + 30}) {
            Check.throwsA(IllegalArgumentException.class, "word " + no, () -> parlour.word(no));
        }
        Check.due("back, as nothing was added", 34, parlour.back());
        parlour = new ParserParlour();
        for (int word = 0; word < 60; word++) {
            if (isWord(word)) {
                Check.due("the only word", 1, parlour.word(word));
                Check.due("the only word", word, parlour.back());
            }
        }
        parlour.word(0);
        parlour.say();
        Check.due("the first word behind say()", 1, parlour.word(0));
    }

    private static void promise7Back() {
        things(2);
        Check.throwsA(IllegalStateException.class, "back without words", () -> parlour.back());
        parlour.word(0);
        parlour.word(21);
        parlour.word(40);
        Check.due("back", 40, parlour.back());
        Check.due("a word behind back", 3, parlour.word(30));
        does("", 2, 2);
        Check.throwsA(IllegalStateException.class, "back behind say", () -> parlour.back());
        parlour.word(1);
        Check.due("back", 1, parlour.back());
        Check.throwsA(IllegalStateException.class, "back behind the first word", () -> parlour.back());
        says("", EMPTY);
    }

    private static void promise8Say() {
        things(2);
        says("", EMPTY);
        says("the n0", NO_VERB);
        says("in", NO_VERB);
        says("take", WRONG);
        says("take n1", NOTHING);
        says("take n0", ASKED);
        says("a1", DONE);
        places(ROOM, HAND);
        says("", EMPTY);
        says("a1", NO_VERB);
        does("drop all", 2, 2);
    }

    private static void promise8Singles() {
        things(3);
        does("take the a0 a0 n0", 1, 1);
        does("drop a0 one", 1, 1);
        does("take the a0 one and the a1 n0", 3, 3);
        // just one that the verb suits, or several, or none
        does("take n0", 4, 4);
        asks("drop n0", 7, 1);
        does("drop a1 n0", 2, 2);
        does("take n0", 2, 2);
        asks("take n0", 7, 1);
        does("drop a1 n0", 2, 2);
        asks("drop n0", 5, 1);
        nothing("take a0 a1 n0", 3);
        nothing("take a3 one", 2);
        nothing("take n1", 1);
        // just one fits, though the verb does not suit it
        does("take a0 n0", 1, 0);
        does("open a0 n0", 1, 0);
        asks("open n0", 7, 1);
        parlour.thing(1, 0, true);
        parlour.thing(1, 1, true);
        parlour.thing(1, 2, false);
        asks("open n1", 0b011000, 1);
        does("open a0 n1", 0b010000, 0b010000);
        does("open n1", 0b001000, 0b001000);
        asks("open n1", 0b111000, 1);
        asks("shut n1", 0b011000, 1);
        does("shut a0 n1", 0b010000, 0b010000);
        // behind IN it is IN that suits
        does("put a0 n0 in n1", 1, 1);
        Check.due("into the only open one", 3, parlour.into());
        does("shut n1", 0b001000, 0b001000);
        asks("put a2 n0 in n1", 0b111000, 4);
        does("open all", 0b011000, 0b011000);
        asks("put a2 n0 in n1", 0b011000, 4);
        does("put a2 n0 in a1 n1", 0b100, 0);
        Check.due("into what is no box", 5, parlour.into());
        // ONE has no noun
        asks("take a0 one", 0b010001, 2);
    }

    private static void promise8AllAndPlurals() {
        things(3);
        parlour.thing(1, 1, true);
        does("take all", 15, 15);
        nothing("take all", 1);
        does("drop the a0 p0", 1, 1);
        does("drop p1", 8, 8);
        does("drop all a1 p0", 2, 2);
        nothing("drop the p1", 2);
        nothing("drop all a0 p0", 3);
        does("drop p0", 4, 4);
        does("take p0", 7, 7);
        does("take a0 a0 p1", 8, 8);
        nothing("drop a0 a1 p0", 3);
        nothing("drop p2", 1);
        does("open all", 8, 8);
        nothing("open all", 1);
        does("shut all p1", 8, 8);
        does("drop p0 and n1", 15, 15);
        does("take n1 and all", 15, 15);
        does("drop a1 n0 and all", 15, 15);
        does("take all and n1", 15, 15);
    }

    private static void promise8But() {
        things(4);
        parlour.thing(1, 1, true);
        does("take all but a0 n0 and a1 one", 0b11100, 0b11100);
        // AND goes on with what is left out if a single follows, otherwise with the group
        does("drop all p0 but a2 one and n1 and p1", 0b11000, 0b11000);
        does("take all but n1 and a3 n0 and p1", 0b10011, 0b10011);
        does("drop all but n1 and them", 0b10111, 0b10111);
        does("take p0 but a0 n0 and a1 n0 and p1 and a0 n0", 0b11101, 0b11101);
        asks("drop all but a0 one and them", 0b10001, 4);
        does("n1", 0b11101, 0b11101);
        nothing("take all p0 but a0 n0 and a1 n0 and a2 n0 and a3 n0", 2);
        does("take all but n1 and all a0 p0 but n1", 0b1111, 0b1111);
        does("drop p0 but a0 n0 and a0 p0 and a0 n0", 0b1111, 0b1111);
        does("take the a0 p0 but n1", 1, 1);
        does("take all but it and n1", 0b1110, 0b1110);
    }

    private static void promise8It() {
        things(3);
        parlour.thing(1, 0, true);
        does("take a1 n0", 2, 2);
        does("take a0 n0 and a2 n0", 5, 5);
        does("drop it", 2, 2);
        does("take the a1 n0 and it", 2, 2);
        does("drop p0 but it", 5, 5);
        // meant alone by ALL
        does("take p0 but it", 5, 5);
        does("drop a0 n0 and it", 3, 3);
        does("drop all", 4, 4);
        does("take it", 4, 4);
        // by an order that was done with nothing
        does("drop a0 n0", 1, 0);
        does("take it", 1, 1);
        // behind IN
        does("open n1", 8, 8);
        does("put a0 n0 in it", 1, 1);
        Check.due("into it", 3, parlour.into());
        does("take it", 1, 1);
        // orders that are not done leave IT alone
        says("take n5", NOTHING);
        says("take a1 n0 and n5", NOTHING);
        says("open n0", ASKED);
        says("take a1 n0 n0", WRONG);
        does("drop it", 1, 1);
        // so does what stands behind IN
        does("take p0 but a2 n0", 3, 3);
        does("put all and n1 in n1", 15, 7);
        does("take it", 1, 1);
        itOutOfReach();
    }

    private static void itOutOfReach() {
        openBoxes(3);
        does("take n0", 1, 1);
        does("put it in n1", 1, 1);
        does("shut n1 and n2", 6, 6);
        nothing("take it", 1);
        nothing("take n2 and it", 3);
        nothing("take all but it", 3);
        nothing("put n2 in it", 3);
        does("open all", 6, 6);
        does("take it", 1, 1);
        does("put it in n1", 1, 1);
    }

    private static void promise8Them() {
        openBoxes(4);
        does("take n0 and n1", 3, 3);
        does("drop them and n2", 7, 3);
        does("take them", 7, 7);
        does("put them in n3", 7, 7);
        does("take n1", 2, 2);
        does("drop them", 2, 2);
        does("take all", 15, 15);
        does("put n0 in n1", 1, 1);
        does("shut n0 and n1 and n2", 7, 7);
        // as far as they are in reach
        does("drop them", 6, 6);
        does("open n1", 2, 2);
        does("shut n0", 1, 0);
        does("shut n1", 2, 2);
        does("open n1", 2, 2);
        does("take n0", 1, 1);
        does("put n0 in n1", 1, 1);
        says("shut it and n1", DONE);
        Check.due("what stays in reach", 0b1110, parlour.inReach());
        does("open them", 2, 2);
        does("take n0 and n2", 5, 5);
        // what is not done leaves THEM alone
        says("take n5", NOTHING);
        says("take them them", WRONG);
        says("n0", NO_VERB);
        does("drop them", 5, 5);
    }

    private static void promise8OrderOfFinding() {
        things(3);
        parlour.thing(1, 0, true);
        // the first that stays open counts; what comes behind it is not looked at
        nothing("take n5 and n0 and n6", 1);
        asks("take n0 and n5", 7, 1);
        nothing("a0", 3);
        asks("put n0 in n5", 7, 1);
        nothing("put n5 in n0", 1);
        nothing("put a0 n0 in n5", 4);
        // singles behind BUT come ahead of their part, but behind earlier parts
        nothing("drop all but n5", 3);
        asks("drop all but n0", 7, 3);
        nothing("drop all but n1", 1);
        nothing("drop p0 and all but n5", 1);
        nothing("take p0 and all but n5", 5);
        nothing("drop all but n1 and n5 and n0", 5);
        asks("drop all but n1 and n0 and n5", 7, 5);
    }

    private static void promise8DoingByRisingNumbers() {
        openBoxes(3);
        does("take n1", 2, 2);
        does("put n1 in n0", 2, 2);
        // shutting 0 takes 1 out of reach
        does("shut n1 and n0", 3, 1);
        open(0, false);
        open(1, true);
        does("open n0", 1, 1);
        does("shut all", 7, 5);
        open(1, true);
        // a box with a higher number comes later
        openBoxes(3);
        does("take n1", 2, 2);
        does("put n1 in n2", 2, 2);
        does("shut all", 7, 7);
        open(1, false);
        does("open all", 5, 5);
        open(1, false);
        does("take n1 and n2", 6, 6);
        places(ROOM, HAND, HAND);
        does("drop n0 and n2", 5, 4);
        does("take all", 5, 5);
        does("drop all", 7, 7);
    }

    private static void promise8PutInto() {
        openBoxes(4);
        does("put n0 in n1", 1, 0);
        Check.due("into, though it is not in the hand", 1, parlour.into());
        says("take all", DONE);
        does("put all in n2", 15, 11);
        places(2, 2, HAND, 2);
        does("take n3", 8, 8);
        does("put n2 in n3", 4, 4);
        // not into a box that is inside the first one, not into itself
        does("put n3 in n0", 8, 0);
        does("put n3 in n2", 8, 0);
        does("put n3 in n3", 8, 0);
        places(2, 2, 3, HAND);
        does("put n0 in n1", 1, 0);
        does("take n0", 1, 1);
        does("put n0 and n3 in n1", 9, 1);
        places(1, 2, 3, HAND);
        does("take n0", 1, 1);
        does("shut n2", 4, 4);
        does("put n0 in n2", 1, 0);
        Check.due("into a shut box", 2, parlour.into());
        does("shut n3", 8, 8);
        does("put n0 in n3", 1, 0);
        parlour.thing(5, 0, false);
        does("put n0 in n5", 1, 0);
        Check.due("into no box", 4, parlour.into());
        places(HAND, 2, 3, HAND, ROOM);
    }

    private static void promise8Answers() {
        parlour = new ParserParlour();
        parlour.thing(0, 0b001, false);
        parlour.thing(0, 0b011, false);
        parlour.thing(0, 0b111, false);
        parlour.thing(1, 0b101, false);
        asks("take a0 one", 15, 2);
        asks("one", 15, 2);
        asks("the one", 15, 2);
        asks("a0", 15, 2);
        asks("n0", 7, 2);
        asks("a1 n0", 6, 2);
        nothing("n1", NONE);
        question(6, 2);
        nothing("a3", NONE);
        question(6, 2);
        says("", EMPTY);
        question(6, 2);
        wrong("it", 0);
        question(6, 2);
        does("the a2 a1 one", 4, 4);
        asks("take a0 one", 11, 2);
        does("the n1", 8, 8);
        asks("take a0 one", 3, 2);
        nothing("a2", NONE);
        does("a1", 2, 2);
        does("take a0 one", 1, 1);
        // a verb begins a new order
        asks("drop n0", 7, 1);
        asks("drop a0 one", 15, 2);
        wrong("take take", 1);
        question(0, NONE);
        says("a0", NO_VERB);
        asks("drop n0", 7, 1);
        nothing("take n7", 1);
        question(0, NONE);
        asks("drop n0", 7, 1);
        wrong("shut", 1);
        says("a2", NO_VERB);
        asks("drop n0", 7, 1);
        does("drop n1", 8, 8);
        says("a2", NO_VERB);
    }

    private static void promise8KeptOrder() {
        things(3);
        parlour.thing(1, 1, true);
        parlour.thing(1, 2, true);
        says("open p1", DONE);
        // one question behind the other, with this and earlier answers
        asks("take n0 and n0 and the n1", 7, 1);
        asks("a0", 7, 3);
        asks("a2", 24, 6);
        does("a1", 21, 21);
        last(0, 21, 21, NONE);
        asks("put n0 in n1", 5, 1);
        asks("the a2 one", 24, 3);
        nothing("a3", NONE);
        does("a0", 4, 4);
        last(2, 4, 4, 3);
        // the answer is taken even if the verb does not suit it
        does("take p0", 6, 6);
        asks("take n0", 7, 1);
        does("a2", 4, 0);
        // NOTHING behind an answer ends the question
        asks("drop n0 and n7", 7, 1);
        nothing("a0", 3);
        question(0, NONE);
        says("a0", NO_VERB);
        asks("drop all but n0 and n0 and p1", 7, 3);
        asks("a0", 7, 5);
        does("a1", 20, 20);
        // ALL less what was answered
        asks("drop p0 but n0", 3, 3);
        does("a0", 2, 2);
    }

    private static void promise8ThingsDuringAQuestion() {
        things(2);
        parlour.thing(1, 0, false);
        asks("take n1 and n0", 3, 3);
        parlour.thing(0, 4, false);
        question(3, 3);
        nothing("a2", NONE);
        parlour.thing(1, 1, false);
        // the order is looked at from its first phrase: it is not clear any more
        asks("a0", 0b10100, 1);
        does("a0 n1", 0b10001, 0b10001);
        // ALL means what came, too; the answer stays though more would fit
        asks("drop all but a0 one", 0b10001, 4);
        does("n0", 0b10000, 0b10000);
        asks("take n0", 0b1010, 1);
        parlour.thing(0, 2, false);
        asks("one", 0b1010, 1);
        does("a1", 2, 2);
    }

    private static void promise9Outcome() {
        things(2);
        Check.due("outcome ahead of say()", NONE, parlour.outcome());
        parlour.word(0);
        Check.due("outcome ahead of say()", NONE, parlour.outcome());
        says("", WRONG);
        says("", EMPTY);
        says("n0", NO_VERB);
        says("take n0", ASKED);
        parlour.word(31);
        Check.due("outcome ahead of the next say()", ASKED, parlour.outcome());
        says("", NOTHING);
        says("a0", DONE);
        parlour.thing(0, 0, false);
        Check.due("outcome behind thing()", DONE, parlour.outcome());
    }

    private static void promise10WrongAtInOrders() {
        things(1);
        String[] behindTheLast = {"take", "put", "take the", "take a0", "take the a0 a1", "take n0 and", "put n0",
            "put n0 in", "put all in the", "put all in a0", "take all a0", "take all but", "take all but the",
            "take p0 but a0", "take all but n0 and", "put them and all but it and it"};
        for (String words : behindTheLast) {
            wrong(words, Say.words(words).size());
        }
        wrong("take take", 1);
        wrong("take but n0", 1);
        wrong("take and n0", 1);
        wrong("take in n0", 1);
        wrong("take one", 1);
        wrong("take the one", 2);
        wrong("take the the n0", 2);
        wrong("take the all", 2);
        wrong("take the it", 2);
        wrong("take the them", 2);
        wrong("take a0 the n0", 2);
        wrong("take a0 it", 2);
        wrong("take a0 all", 2);
        wrong("take n0 n0", 2);
        wrong("take n0 a0", 2);
        wrong("take n0 one", 2);
        wrong("take it one", 2);
        wrong("take n0 but n0", 2);
        wrong("take it but n0", 2);
        wrong("take them but n0", 2);
        wrong("take n0 in n0", 2);
        wrong("take n0 drop n0", 2);
        wrong("take all n0", 2);
        wrong("take all the p0", 2);
        wrong("take all one", 2);
        wrong("take all all", 2);
        wrong("take all it", 2);
        wrong("take all a0 n0", 3);
        wrong("take all a0 one", 3);
        wrong("take all a0 but n0", 3);
        wrong("take all a0 and n0", 3);
        wrong("take p0 p0", 2);
        wrong("take all p0 p0", 3);
        things(1);
        wrong("take all but p0", 3);
        wrong("take all but all", 3);
        wrong("take all but them", 3);
        wrong("take all but one", 3);
        wrong("take all but the one", 4);
        wrong("take all but a0 p0", 4);
        wrong("take all but n0 but n0", 4);
        wrong("take all but n0 in n0", 4);
        wrong("take all but n0 and n0 but n0", 6);
        wrong("take all but n0 and one", 5);
        wrong("take p0 but n0 and them but n0", 6);
        wrong("put all in all", 3);
        wrong("put all in p0", 3);
        wrong("put all in them", 3);
        wrong("put all in one", 3);
        wrong("put all in a0 p0", 4);
        wrong("put all in n0 and n0", 4);
        wrong("put all in n0 in n0", 4);
        wrong("put all in n0 but n0", 4);
        wrong("put all a0 in n0", 3);
        wrong("put in n0", 1);
        wrong("put n0 and in n0", 3);
        wrong("take a0 a0 a0 a0 a0 a0 a0 a0 a0 a0 a0 a0 a0 a0 a0 a0 a0 a0 a0 a0 a0 a0 a0", 24);
        wrong("take the n7 and it and it and it and it and it and it and it and it and it and it and", 24);
        says("take n0", DONE);
        Check.due("wrongAt behind DONE", NONE, parlour.wrongAt());
        wrong("take", 1);
        says("", EMPTY);
        Check.due("wrongAt behind EMPTY", NONE, parlour.wrongAt());
        wrong("take", 1);
        says("n0 n0", NO_VERB);
        Check.due("wrongAt behind NO_VERB", NONE, parlour.wrongAt());
    }

    private static void promise10WrongAtInAnswers() {
        things(2);
        asks("take n0", 3, 1);
        wrong("the", 1);
        wrong("the the", 1);
        wrong("it", 0);
        wrong("them", 0);
        wrong("all", 0);
        wrong("p0", 0);
        wrong("and n0", 0);
        wrong("but n0", 0);
        wrong("in n0", 0);
        wrong("the p0", 1);
        wrong("the it", 1);
        wrong("the a0 the", 2);
        wrong("one one", 1);
        wrong("one n0", 1);
        wrong("one a0", 1);
        wrong("n0 n0", 1);
        wrong("n0 one", 1);
        wrong("n0 and n0", 1);
        wrong("a0 take", 1);
        wrong("a0 a0 a0 p0", 3);
        question(3, 1);
        Check.due("questions behind wrong answers", 1, parlour.questions());
        does("a0", 1, 1);
    }

    private static void promise10NothingAt() {
        things(2);
        parlour.thing(1, 0, true);
        nothing("take the a0 n7", 3);
        nothing("take a5 one", 2);
        nothing("take a0 n0 and the a5 a4 one and n0", 7);
        nothing("take it", 1);
        nothing("take them", 1);
        nothing("take n1 and them", 3);
        nothing("take all a5 p0 but a0 n0", 3);
        nothing("take the p7 but a0 n0", 2);
        nothing("drop all but a0 n0", 1);
        nothing("take p0 but a0 n0 and a1 n0", 1);
        nothing("put all in n1", 1);
        says("take p0", DONE);
        nothing("put all in a5 n1", 4);
        nothing("put n1 in it", 3);
        // in the kept order, behind an answer of another length
        asks("put all but n0 in n7", 3, 3);
        nothing("the a0 a0 one", 5);
        asks("drop n0 and n7", 3, 1);
        nothing("a5", NONE);
        Check.due("the question stays", 3, parlour.asked());
        nothing("n1", NONE);
        says("take n7", NOTHING);
        Check.due("wrongAt", 1, parlour.wrongAt());
        says("drop n0", ASKED);
        Check.due("wrongAt behind ASKED", NONE, parlour.wrongAt());
    }

    private static void promises11To14LastDoneOrder() {
        openBoxes(3);
        last(3, 7, 7, NONE);
        says("take n0 and n1", DONE);
        last(0, 3, 3, NONE);
        says("put all in n1", DONE);
        last(2, 3, 1, 1);
        // what is not done changes nothing of it
        says("", EMPTY);
        says("n0", NO_VERB);
        says("drop", WRONG);
        says("drop n7", NOTHING);
        last(2, 3, 1, 1);
        says("drop n0", DONE);
        last(1, 1, 0, NONE);
        says("put n1 in n1", DONE);
        last(2, 2, 0, 1);
        says("shut all but n0", DONE);
        last(4, 6, 6, NONE);
        parlour.thing(0, 1, true);
        says("open n0", DONE);
        last(3, 8, 8, NONE);
        parlour.thing(5, 1, true);
        says("shut n1", DONE);
        says("take n2 and n5", DONE);
        parlour.thing(5, 2, true);
        says("drop n5", DONE);
        last(1, 16, 16, NONE);
        says("open n5", ASKED);
        last(1, 16, 16, NONE);
        says("n7", NOTHING);
        last(1, 16, 16, NONE);
        says("a1", DONE);
        last(3, 32, 32, NONE);
    }

    private static void promises15And16Question() {
        things(3);
        question(0, NONE);
        asks("take a0 n0 and the n0", 7, 5);
        asks("one", 7, 5);
        says("", EMPTY);
        question(7, 5);
        parlour.word(0);
        parlour.back();
        question(7, 5);
        nothing("n7", NONE);
        question(7, 5);
        wrong("p0", 0);
        question(7, 5);
        says("a2", DONE);
        question(0, NONE);
        parlour.thing(0, 0b11, false);
        asks("open the a0 one", 9, 3);
        asks("take the a1 n0", 10, 3);
        wrong("take", 1);
        question(0, NONE);
        asks("take the a1 n0", 10, 3);
        says("take it", NOTHING);
        question(0, NONE);
    }

    private static void promise17Questions() {
        things(2);
        Check.due("questions", 0, parlour.questions());
        says("take n0", ASKED);
        Check.due("questions", 1, parlour.questions());
        says("one", ASKED);
        Check.due("questions", 2, parlour.questions());
        says("n7", NOTHING);
        says("it", WRONG);
        says("", EMPTY);
        Check.due("questions", 2, parlour.questions());
        says("take n0 and n0", ASKED);
        says("a0", ASKED);
        Check.due("questions", 4, parlour.questions());
        says("a0", DONE);
        says("take", WRONG);
        says("n0", NO_VERB);
        Check.due("questions", 4, parlour.questions());
    }
}
