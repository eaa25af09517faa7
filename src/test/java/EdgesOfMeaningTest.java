/** The sentences on what is meant, on doing and on questions that name an edge, each with its test. */
public final class EdgesOfMeaningTest extends Edges {
    public static void main(String[] args) {
        edge("A verb suits a thing in reach: TAKE if it is not in the hand, DROP and PUT if it is in the hand, "
                + "OPEN if it is a box that is shut, SHUT if it is an open box.", EdgesOfMeaningTest::whatVerbsSuit);
        edge("IN suits open boxes in reach.", EdgesOfMeaningTest::whatInSuits);
        edge("What is meant is found from the first single or part to the last one.",
                EdgesOfMeaningTest::foundFromTheFirst);
        edge("The fitting things of a phrase are the things in reach that have all its adjectives, and its noun, "
                + "if it has one.", EdgesOfMeaningTest::fitting);
        edge("single with noun or ONE: if nothing fits, it means NOTHING.", EdgesOfMeaningTest::noneFits);
        edge("If one thing fits, that is meant.", EdgesOfMeaningTest::oneFits);
        edge("If several fit, and the verb (behind IN: IN) suits just one of them, that is meant",
                EdgesOfMeaningTest::severalFitOneIsSuited);
        edge("otherwise there is a question: which one of those that it suits, or of all that fit, if it suits none.",
                EdgesOfMeaningTest::severalOrNoneAreSuited);
        edge("IT means the thing that was meant by the latest one of those done orders that meant just one thing "
                + "(the one behind IN aside), however many orders were done behind it", EdgesOfMeaningTest::it);
        edge("THEM means the things that the last order that was done meant, as far as they are in reach.",
                EdgesOfMeaningTest::them);
        edge("If there is no such thing, or it is not in reach, or none of them, it means NOTHING.",
                EdgesOfMeaningTest::neitherItNorThem);
        edge("ALL, or a part with a plural, means all things that the verb suits and that fit (all, if there is no "
                + "plural), less those that are left out by BUT", EdgesOfMeaningTest::all);
        edge("the singles behind BUT are found first", EdgesOfMeaningTest::leftOutFirst);
        edge("If there are none, it means NOTHING.", EdgesOfMeaningTest::allOfNone);
        edge("The group means all things that its parts mean.", EdgesOfMeaningTest::group);
        edge("If something means NOTHING, or there is a question, what comes behind it is not looked at.",
                EdgesOfMeaningTest::notLookedAt);
        edge("If everything is found, the order is done with each thing of the group, by rising numbers, if at that "
                + "moment the verb suits it; otherwise not with that thing.", EdgesOfMeaningTest::byRisingNumbers);
        edge("PUT puts it into the thing behind IN, if IN suits that", EdgesOfMeaningTest::putIfInSuits);
        edge("it is another thing, and not inside the first one", EdgesOfMeaningTest::putIntoAnother);
        edge("While there is a question, the order is kept.", EdgesOfMeaningTest::orderIsKept);
        edge("Words that begin with a verb are a new order, and the question is dropped, also if they are wrong.",
                EdgesOfMeaningTest::newOrder);
        edge("[THE] adjectives [noun | ONE], at least one word other than THE", EdgesOfMeaningTest::answers);
        edge("Those of the things that the question is about are left which have the adjectives, and the noun, "
                + "if there is one.", EdgesOfMeaningTest::left);
        edge("If it is one, the phrase means that from then on", EdgesOfMeaningTest::oneIsLeft);
        edge("the kept order is looked at once more from its first phrase, with this and earlier answers",
                EdgesOfMeaningTest::earlierAnswers);
        edge("when it is done, or something means NOTHING, the question is over", EdgesOfMeaningTest::questionIsOver);
        edge("If there are several, the question is about these.", EdgesOfMeaningTest::severalAreLeft);
        edge("If there is none, or the words are no answer, or there are no words, the question stays as it was.",
                EdgesOfMeaningTest::questionStays);
        Check.end();
    }

    /** The things 0 and 1 with the noun 0, and the box 2, open, with the noun 1. */
    private static void twoAndABox() {
        things(2);
        parlour.thing(1, 0, true);
        says("open n1", DONE);
    }

    // ---- what suits

    private static void whatVerbsSuit() {
        named(3);
        parlour.thing(3, 0, false);
        nothing("shut all", 1);
        nothing("drop all", 1);
        nothing("put all in n0", 1);
        does("open all", 0b0111, 0b0111);
        nothing("open all", 1);
        does("take all", 0b1111, 0b1111);
        nothing("take all", 1);
        does("put n3 in n0", 0b1000, 0b1000);
        // in a box in the hand is not in the hand, and may be taken
        does("drop all", 0b0111, 0b0111);
        does("take n0", 0b0001, 0b0001);
        does("drop all", 0b0001, 0b0001);
        does("take all", 0b1111, 0b1111);
        does("put n3 in n0", 0b1000, 0b1000);
        does("shut n0 and n1", 0b0011, 0b0011);
        // out of reach nothing suits
        nothing("take all", 1);
        does("shut all", 0b0100, 0b0100);
        does("open all", 0b0111, 0b0111);
        does("take all", 0b1000, 0b1000);
    }

    private static void whatInSuits() {
        parlour = new ParserParlour();
        parlour.thing(0, 0, false);
        parlour.thing(1, 1, true);
        parlour.thing(1, 2, true);
        parlour.thing(1, 4, false);
        says("take n0", DONE);
        // no open box, one, two
        asks("put n0 in n1", 0b1110, 3);
        says("open a0 n1", DONE);
        does("put n0 in n1", 1, 1);
        Check.due("into the open box", 1, parlour.into());
        says("take n0 and a0 n1", DONE);
        does("put n0 in n1", 1, 1);
        Check.due("into the open box in the hand", 1, parlour.into());
        says("open a1 n1", DONE);
        says("take n0", DONE);
        asks("put n0 in n1", 0b0110, 3);
        // the one open box out of reach, and both in reach, one of them in the other
        says("put a0 n1 in a1 n1", DONE);
        says("shut a1 n1", DONE);
        asks("put n0 in n1", 0b1100, 3);
        says("open a1 n1", DONE);
        asks("put n0 in n1", 0b0110, 3);
    }

    // ---- what is meant

    private static void foundFromTheFirst() {
        twoAndABox();
        asks("take n0 and n0", 3, 1);
        asks("a0", 3, 3);
        does("a1", 3, 3);
        nothing("drop n6 and n7", 1);
        asks("put n0 in n7", 3, 1);
        nothing("put a0 n0 and n6 in n7", 4);
        nothing("put a0 n0 and all in n7", 6);
        nothing("put a0 n0 in n7", 4);
    }

    private static void fitting() {
        parlour = new ParserParlour();
        parlour.thing(0, 0b000000, false);
        parlour.thing(0, 0b100001, false);
        parlour.thing(7, 0b100000, false);
        asks("open n0", 0b011, 1);
        asks("open a5 one", 0b110, 2);
        does("open a0 a5 one", 0b010, 0);
        does("open a5 n7", 0b100, 0);
        does("open a5 a0 a5 n0", 0b010, 0);
        nothing("open a1 one", 2);
        nothing("open a0 a1 a5 n0", 4);
        does("take all", 0b111, 0b111);
        does("drop a5 p0", 0b010, 0b010);
        does("drop p7", 0b100, 0b100);
    }

    private static void noneFits() {
        parlour = new ParserParlour();
        nothing("take n0", 1);
        nothing("take a0 one", 2);
        twoAndABox();
        nothing("take n2", 1);
        nothing("take a2 one", 2);
        nothing("take all but n2", 3);
        nothing("put a0 n0 in n2", 4);
        does("take a0 n0", 1, 1);
        does("put it in n1", 1, 1);
        does("shut n1", 4, 4);
        nothing("take a0 n0", 2);
        does("take n0", 2, 2);
    }

    private static void oneFits() {
        twoAndABox();
        // whether the verb suits it or not
        does("drop a0 n0", 1, 0);
        does("open a0 one", 1, 0);
        does("put a0 n0 in a1 n0", 1, 0);
        Check.due("into what is no box", 1, parlour.into());
        does("open n1", 4, 0);
        does("take all but a0 n0", 6, 6);
        does("take a0 n0", 1, 1);
        does("take a0 n0", 1, 0);
    }

    private static void severalFitOneIsSuited() {
        twoAndABox();
        does("take a0 n0", 1, 1);
        does("take n0", 2, 2);
        does("drop a1 n0", 2, 2);
        does("drop n0", 1, 1);
        does("take a1 n0", 2, 2);
        // so, too, behind BUT; behind IN it is IN that suits
        nothing("drop all but n0", 1);
        parlour.thing(1, 1, true);
        does("put n0 in n1", 2, 2);
        Check.due("into the only open one", 2, parlour.into());
        does("open n1", 8, 8);
        does("shut a0 n1", 8, 8);
        does("shut n1", 4, 4);
    }

    private static void severalOrNoneAreSuited() {
        things(4);
        asks("take n0", 0b1111, 1);
        does("take a0 n0", 0b0001, 0b0001);
        asks("take n0", 0b1110, 1);
        does("take a1 n0", 0b0010, 0b0010);
        asks("take n0", 0b1100, 1);
        asks("drop n0", 0b0011, 1);
        asks("open n0", 0b1111, 1);
        asks("put a0 n0 in n0", 0b1111, 4);
        does("take p0", 0b1100, 0b1100);
        asks("take n0", 0b1111, 1);
        asks("take all but n0", 0b1111, 3);
    }

    private static void it() {
        twoAndABox();
        does("take a0 n0", 1, 1);
        for (int orders = 0; orders < 20; orders++) {
            does("open n1 and a0 n0", 5, 0);
        }
        does("put it in n1", 1, 1);
        does("take p0 and n1", 7, 7);
        does("put p0 in n1", 3, 3);
        does("take it", 1, 1);
        // meant alone, though nothing was done, and though a part with ALL means it
        does("take n1", 4, 0);
        does("shut it", 4, 4);
        does("drop p0", 1, 1);
        does("drop n1", 4, 4);
        does("take all but n1", 1, 1);
        does("drop it", 1, 1);
    }

    private static void them() {
        twoAndABox();
        does("open n1", 4, 0);
        does("take them", 4, 4);
        does("take p0", 3, 3);
        does("drop them", 3, 3);
        does("take all but a1 n0", 1, 1);
        does("put them in n1", 1, 1);
        does("take p0 and n1", 7, 3);
        does("put a0 n0 in n1", 1, 1);
        does("drop them and a1 n0", 3, 2);
        does("shut n1 and them", 7, 4);
        // one of three is out of reach
        does("drop them", 6, 4);
    }

    private static void neitherItNorThem() {
        named(2);
        nothing("take it", 1);
        nothing("take them", 1);
        nothing("take n0 and it", 3);
        nothing("take n0 and them", 3);
        does("open all", 3, 3);
        nothing("take it", 1);
        does("take n1", 2, 2);
        does("put it in n0", 2, 2);
        does("shut n0 and n1", 3, 1);
        nothing("take it", 1);
        nothing("take all but it", 3);
        nothing("put n0 in it", 3);
        // one of them is in reach
        does("take them", 1, 1);
    }

    private static void all() {
        things(3);
        parlour.thing(1, 1, true);
        does("take all", 15, 15);
        does("drop all but n1", 7, 7);
        does("take p0", 7, 7);
        does("drop all a0 p0", 1, 1);
        does("drop p0", 6, 6);
        // what the verb does not suit may be left out, too
        does("take all but n1", 7, 7);
        does("open all but a0 n0", 8, 8);
        does("drop p0 but a0 n0 and a1 n0", 4, 4);
    }

    private static void leftOutFirst() {
        things(2);
        nothing("drop all but n7", 3);
        nothing("drop p7 but n7", 3);
        asks("drop p7 but n0", 3, 3);
        nothing("a0", 1);
        nothing("drop all but a0 n0 and n7", 6);
        // but behind the parts that come ahead
        nothing("drop n7 and all but n0", 1);
    }

    private static void allOfNone() {
        parlour = new ParserParlour();
        nothing("take all", 1);
        nothing("take p0", 1);
        things(2);
        nothing("drop all", 1);
        nothing("drop all p0", 2);
        nothing("take p1", 1);
        nothing("take a0 a1 p0", 3);
        nothing("take all but a0 n0 and a1 n0", 1);
        nothing("take all a0 p0 but a0 n0", 3);
        does("take all", 3, 3);
        nothing("take all", 1);
    }

    private static void group() {
        things(3);
        does("take a0 n0 and a0 one and all a0 p0", 1, 1);
        does("drop it and it and them", 1, 1);
        does("take all and all", 7, 7);
        // what was left out by one part may be meant by another one
        does("drop all but a0 n0 and p0", 7, 7);
        does("take all but a2 n0 and p0 but a0 n0", 7, 7);
    }

    private static void notLookedAt() {
        things(2);
        nothing("take n7 and n0", 1);
        nothing("take n6 and n7", 1);
        asks("take n0 and n7", 3, 1);
        asks("take n0 and n0 and n7", 3, 1);
        asks("put n0 in n7", 3, 1);
        nothing("put n7 in n0", 1);
        asks("take all but n0 and n7", 3, 3);
        nothing("take all but n7 and n0", 3);
        questions(4);
        places(ROOM, ROOM);
        last(NONE, 0, 0, NONE);
    }

    // ---- doing

    private static void byRisingNumbers() {
        named(3);
        says("open all", DONE);
        says("take n0 and n2", DONE);
        says("put n0 and n2 in n1", DONE);
        // the box 1 is shut before the box 2 that is in it, and behind the box 0
        does("shut n2 and n1 and n0", 7, 3);
        open(0, false);
        open(1, false);
        open(2, true);
        does("open n1", 2, 2);
        does("open all", 1, 1);
        does("take n0 and n1", 3, 3);
        does("drop all and n2", 7, 3);
        does("take all", 7, 7);
        does("take n0 and n1 and n2", 7, 0);
    }

    private static void putIfInSuits() {
        twoAndABox();
        says("take p0", DONE);
        does("shut n1", 4, 4);
        does("put a0 n0 in n1", 1, 0);
        does("put a0 n0 in a1 n0", 1, 0);
        places(HAND, HAND, ROOM);
        does("open n1", 4, 4);
        does("put a0 n0 in n1", 1, 1);
        does("put a0 n0 in n1", 1, 0);
        does("take n1", 4, 4);
        does("put a1 n0 in n1", 2, 2);
        places(2, 2, HAND);
    }

    private static void putIntoAnother() {
        named(3);
        says("open all", DONE);
        does("take all", 7, 7);
        does("put n0 in n0", 1, 0);
        does("put all in n1", 7, 5);
        places(1, HAND, 1);
        does("put n1 in n0", 2, 0);
        does("put n1 in n1", 2, 0);
        does("take n2", 4, 4);
        does("put n2 in n0", 4, 4);
        does("put n1 in n2", 2, 0);
        places(1, HAND, 0);
        does("take n0", 1, 1);
        // the first one is put, and so the second one stays
        does("put n0 and n1 in n1", 3, 1);
        does("take n0", 1, 1);
        does("put n1 in n2", 2, 2);
        does("put n0 in n2", 1, 0);
        places(HAND, 2, 0);
    }

    // ---- questions

    private static void orderIsKept() {
        things(2);
        asks("take" + times("n0 and", 11) + "n0", 3, 1);
        // words that are taken back, a thing that comes, and answers that are none do not touch it
        for (int k = 0; k < MOST_WORDS; k++) {
            parlour.word(ParserParlour.SHUT);
        }
        for (int k = 0; k < MOST_WORDS; k++) {
            parlour.back();
        }
        parlour.thing(1, 0, false);
        says("the", WRONG);
        nothing("n7", NONE);
        says("", EMPTY);
        question(3, 1);
        for (int k = 1; k <= 11; k++) {
            asks("a0", 3, 1 + 2 * k);
        }
        does("a1", 3, 3);
        last(0, 3, 3, NONE);
    }

    private static void newOrder() {
        things(2);
        String[] orders = {"take", "put", "shut the", "take a0 n0 a0", "open all but"};
        for (String order : orders) {
            asks("take n0", 3, 1);
            says(order, WRONG);
            question(0, NONE);
            says("a0", NO_VERB);
        }
        asks("take n0", 3, 1);
        nothing("take n7", 1);
        question(0, NONE);
        asks("take n0", 3, 1);
        asks("open a0 n0 and n0", 3, 4);
        does("drop a0 n0", 1, 0);
        says("a0", NO_VERB);
        places(ROOM, ROOM);
    }

    private static void answers() {
        String[] right = {"a0", "the a0", "a0 n0", "the a0 n0", "a0 one", "the a0 one", "a0 a0 a0"};
        for (String answer : right) {
            things(2);
            asks("take n0", 3, 1);
            does(answer, 1, 1);
        }
        things(2);
        asks("take n0", 3, 1);
        for (String answer : new String[] {"n0", "the n0", "one", "the one"}) {
            asks(answer, 3, 1);
        }
        wrong("the", 1);
        wrong("the the", 1);
        wrong("n0 a0", 1);
        wrong("n0 one", 1);
        wrong("p0", 0);
        wrong("them", 0);
        wrong("in", 0);
        wrong("but a0", 0);
        wrong("all", 0);
        question(3, 1);
    }

    private static void left() {
        parlour = new ParserParlour();
        parlour.thing(0, 0b01, false);
        parlour.thing(1, 0b11, false);
        parlour.thing(1, 0b01, false);
        asks("take a0 one", 7, 2);
        nothing("n2", NONE);
        nothing("a1 n0", NONE);
        nothing("a2", NONE);
        nothing("a0 a1 a5", NONE);
        // a thing that the question is not about is not left
        parlour.thing(2, 0b01, false);
        nothing("n2", NONE);
        question(7, 2);
        asks("n1", 6, 2);
        nothing("n0", NONE);
        does("a1", 2, 2);
        asks("take a0 one", 13, 2);
        does("n2", 8, 8);
    }

    private static void oneIsLeft() {
        things(2);
        asks("open n0", 3, 1);
        does("a1", 2, 0);
        asks("take all but n0", 3, 3);
        does("a1", 1, 1);
        asks("put a0 n0 in n0", 3, 4);
        does("a0", 1, 0);
        Check.due("into what was answered", 0, parlour.into());
        asks("open n0 and a0 n0 and a1 n0", 3, 1);
        does("a0", 3, 0);
    }

    private static void earlierAnswers() {
        things(2);
        asks("open n0" + times("and n0", 11), 3, 1);
        for (int k = 1; k < 11; k++) {
            asks("a0", 3, 1 + 2 * k);
        }
        asks("a1", 3, 23);
        does("a0", 3, 0);
        questions(12);
        asks("put n0 in n0", 3, 1);
        asks("a1", 3, 3);
        nothing("a2", NONE);
        asks("one", 3, 3);
        does("a0", 2, 0);
        Check.due("into", 0, parlour.into());
    }

    private static void questionIsOver() {
        things(2);
        asks("take n0", 3, 1);
        does("a0", 1, 1);
        says("a1", NO_VERB);
        asks("open n0 and n7", 3, 1);
        nothing("a0", 3);
        question(0, NONE);
        says("a0", NO_VERB);
        last(0, 1, 1, NONE);
        // answers are forgotten then
        asks("open n0 and n7", 3, 1);
    }

    private static void severalAreLeft() {
        parlour = new ParserParlour();
        for (int k = 0; k < MOST_THINGS; k++) {
            parlour.thing(0, k, false);
        }
        asks("take n0", ALL_THINGS, 1);
        asks("one", ALL_THINGS, 1);
        asks("a0", 0xaaa, 1);
        asks("a1", 0x888, 1);
        asks("a0", 0x888, 1);
        does("a3", 0x800, 0x800);
    }

    private static void questionStays() {
        things(3);
        asks("take n0 and a0 one", 7, 1);
        nothing("n7", NONE);
        question(7, 1);
        wrong("the", 1);
        question(7, 1);
        wrong("it and it", 0);
        question(7, 1);
        says("", EMPTY);
        question(7, 1);
        questions(1);
        last(NONE, 0, 0, NONE);
        does("a2", 5, 5);
    }
}
