/** The sentences of the face, the terms and the grammar that name an edge, each with its test. */
public final class EdgesOfTermsTest extends Edges {
    public static void main(String[] args) {
        edge("An object is used for at most 512 calls after it has been made.", EdgesOfTermsTest::mostCalls);
        edge("There are at most 12 things, numbered from 0.", EdgesOfTermsTest::mostThings);
        edge("A thing has a noun, 0 to 7, some of the adjectives 0 to 5, and may be a box.",
                EdgesOfTermsTest::nounsAndSets);
        edge("It is in the room, in the hand, or in a box", EdgesOfTermsTest::placesOfAThing);
        edge("boxes are shut at first", EdgesOfTermsTest::shutAtFirst);
        edge("A thing is in reach if it is in the room or in the hand, or in an open box that is in reach.",
                EdgesOfTermsTest::reachOfANest);
        edge("A thing is inside a box if it is in it, or in a box that is inside it.",
                EdgesOfTermsTest::insideOfANest);
        edge("Sets of things are told as bits, bit k for the thing k.", EdgesOfTermsTest::firstAndLastBits);
        edge("Words are numbers: ..", EdgesOfTermsTest::firstAndLastWords);
        edge("[..] may be left out", EdgesOfTermsTest::leftOut);
        edge("(..)* may come any number of times", EdgesOfTermsTest::anyNumberOfTimes);
        edge("order = PUT group IN single | (TAKE | DROP | OPEN | SHUT) group", EdgesOfTermsTest::orders);
        edge("group = part (AND part)*", EdgesOfTermsTest::groups);
        edge("part = (ALL | ALL adjectives plural | [THE] adjectives plural) [BUT single (AND single)*] | THEM | single",
                EdgesOfTermsTest::parts);
        edge("single = [THE] adjectives noun | [THE] adjective adjectives ONE | IT", EdgesOfTermsTest::singles);
        edge("An AND behind a single that comes behind BUT goes on with what is left out if a single follows it, "
                + "otherwise with the group.", EdgesOfTermsTest::andBehindBut);
        edge("Words that are no order (or no answer) are wrong at the first word with which the words up to it are "
                + "the beginning of none", EdgesOfTermsTest::wrongAtAWord);
        edge("or behind the last word, if there is no such word", EdgesOfTermsTest::wrongBehindTheLastWord);
        Check.end();
    }

    // ---- the public face

    private static void mostCalls() {
        things(2);
        says("take n0", ASKED);
        for (int calls = 6; calls + 2 < MOST_CALLS; calls += 2) {
            parlour.word(ParserParlour.ONE);
            parlour.say();
        }
        questions(253);
        parlour = new ParserParlour();
        for (int calls = 0; calls < MOST_CALLS; calls++) {
            Check.due("say() without words", EMPTY, parlour.say());
        }
        parlour = new ParserParlour();
        for (int calls = 0; calls < MOST_CALLS; calls += 2) {
            Check.due("the only word", 1, parlour.word(47));
            Check.due("the only word", 47, parlour.back());
        }
    }

    // ---- things

    private static void mostThings() {
        parlour = new ParserParlour();
        for (int k = 0; k < MOST_THINGS; k++) {
            refusesNumber(k);
            Check.due("the number", k, parlour.thing(0, 0, false));
        }
        refusesThing(IllegalStateException.class, 0, 0);
        refusesNumber(MOST_THINGS);
        does("take all", ALL_THINGS, ALL_THINGS);
    }

    private static void nounsAndSets() {
        parlour = new ParserParlour();
        parlour.thing(0, 0, true);
        parlour.thing(0, 63, false);
        parlour.thing(7, 0, false);
        parlour.thing(7, 63, true);
        parlour.thing(7, 32, true);
        asks("take n0", 0b00011, 1);
        asks("take n7", 0b11100, 1);
        does("take a0 a1 a2 a3 a4 a5 n0", 0b00010, 0b00010);
        does("take a0 n7", 0b01000, 0b01000);
        asks("open a5 n7", 0b11000, 2);
        asks("drop a5 one", 0b01010, 2);
        nothing("take a0 a5 n6", 3);
        does("open all", 0b11001, 0b11001);
    }

    private static void placesOfAThing() {
        named(2);
        says("open all", DONE);
        places(ROOM, ROOM);
        says("take all", DONE);
        places(HAND, HAND);
        says("put n0 in n1", DONE);
        places(1, HAND);
        says("take n0", DONE);
        says("put n1 in n0", DONE);
        places(HAND, 0);
        says("drop n0", DONE);
        places(ROOM, 0);
        // what is in a box in the hand is not in the hand itself
        nothing("drop all", 1);
        says("take all", DONE);
        places(HAND, HAND);
    }

    private static void shutAtFirst() {
        named(MOST_THINGS);
        for (int k = 0; k < MOST_THINGS; k++) {
            open(k, false);
        }
        nothing("shut all", 1);
        does("open all", ALL_THINGS, ALL_THINGS);
        for (int k = 0; k < MOST_THINGS; k++) {
            open(k, true);
        }
    }

    private static void reachOfANest() {
        parlour = new ParserParlour();
        reach(0);
        nest();
        for (int k = 0; k < MOST_THINGS; k++) {
            reach(ALL_THINGS);
            does("shut " + name(k), 1 << k, 1 << k);
            reach((2 << k) - 1);
            does("open " + name(k), 1 << k, 1 << k);
        }
        does("take " + name(0), 1, 1);
        reach(ALL_THINGS);
        does("shut it", 1, 1);
        reach(1);
    }

    private static void insideOfANest() {
        nest();
        for (int outer = 0; outer < MOST_THINGS; outer += 6) {
            does("take " + name(outer), 1 << outer, 1 << outer);
            for (int k = outer; k < MOST_THINGS; k++) {
                does("put it in " + name(k), 1 << outer, 0);
            }
        }
        places(HAND, 0, 1, 2, 3, 4, HAND, 6, 7, 8, 9, 10);
        // the box 11 is inside the box 6 no more, but in another one that is inside the box 0
        does("take " + name(11), 1 << 11, 1 << 11);
        does("put it in " + name(2), 1 << 11, 1 << 11);
        does("put " + name(6) + " in " + name(11), 1 << 6, 1 << 6);
        does("put " + name(0) + " in " + name(10), 1, 0);
        places(HAND, 0, 1, 2, 3, 4, 11, 6, 7, 8, 9, 2);
    }

    private static void firstAndLastBits() {
        named(MOST_THINGS);
        for (int k = 0; k < MOST_THINGS; k++) {
            does("take " + name(k), 1 << k, 1 << k);
        }
        asks("drop a1 one", 0xf00, 2);
        asks("drop a0 one", 0x0ff, 2);
        does("drop all but " + name(0) + " and " + name(11), 0x7fe, 0x7fe);
        reach(ALL_THINGS);
    }

    // ---- words

    private static void firstAndLastWords() {
        int[][] kinds = {{0, 4}, {10, 17}, {20, 25}, {30, 37}, {40, 47}};
        parlour = new ParserParlour();
        for (int[] kind : kinds) {
            for (int end : kind) {
                Check.due("the end of a kind", 1, parlour.word(end));
                Check.due("the end of a kind", end, parlour.back());
            }
            refusesWord(IllegalArgumentException.class, kind[0] - 1);
            refusesWord(IllegalArgumentException.class, kind[1] + 1);
        }
        refusesFarWords();
        refusesBack();
    }

    // ---- grammar

    private static void leftOut() {
        things(2);
        does("take the a0 n0", 1, 1);
        does("drop a0 n0", 1, 1);
        does("take the a0 one", 1, 1);
        does("drop a0 one", 1, 1);
        does("take the a0 p0", 1, 1);
        does("drop a0 p0", 1, 1);
        does("take all but a0 n0", 2, 2);
        does("drop all", 2, 2);
        does("take the p0 but a0 n0", 2, 2);
        does("drop p0", 2, 2);
    }

    private static void anyNumberOfTimes() {
        things(2);
        does("take" + times("a0", 22) + "n0", 1, 1);
        does("drop" + times("a0", 22) + "one", 1, 1);
        does("take all" + times("a0", 21) + "p0", 1, 1);
        does("drop the" + times("a0", 21) + "p0", 1, 1);
        does("take it" + times("and it", 11), 1, 1);
        does("drop them" + times("and them", 11), 1, 1);
        does("take all but it" + times("and it", 10), 2, 2);
        does("put all in the" + times("a0", 19) + "n0", 2, 0);
        asks("open n0", 3, 1);
        does("the" + times("a1", 22) + "n0", 2, 0);
        asks("open n0", 3, 1);
        does(times("a1", 24), 2, 0);
    }

    private static void orders() {
        things(1);
        does("take n0", 1, 1);
        does("drop n0", 1, 1);
        does("open n0", 1, 0);
        does("shut n0", 1, 0);
        does("put n0 in n0", 1, 0);
        for (String verb : new String[] {"take", "drop", "open", "shut"}) {
            wrong(verb, 1);
            wrong(verb + " n0 in", 2);
            wrong(verb + " n0 in n0", 2);
        }
        wrong("put", 1);
        wrong("put n0", 2);
        wrong("put n0 in", 3);
        wrong("put in n0", 1);
        wrong("put n0 in all", 3);
        wrong("put n0 in p0", 3);
        wrong("put n0 in them", 3);
        wrong("put n0 in n0 and n0", 4);
        wrong("put n0 in n0 in n0", 4);
    }

    private static void groups() {
        things(2);
        does("take a0 n0", 1, 1);
        does("drop a0 n0 and a1 n0", 3, 1);
        does("take a0 n0 and p0 and them and it", 3, 3);
        wrong("take and it", 1);
        wrong("take it and", 3);
        wrong("take it and and it", 3);
        wrong("take it it", 2);
    }

    private static void parts() {
        things(2);
        does("take all", 3, 3);
        does("drop all p0", 3, 3);
        does("take all a0 p0", 1, 1);
        does("drop p0", 1, 1);
        does("take the p0 but it", 2, 2);
        wrong("take all a0", 3);
        wrong("take all a0 but it", 3);
        wrong("take all n0", 2);
        wrong("take all the p0", 2);
        wrong("take the all", 2);
        wrong("take the them", 2);
        wrong("take all but", 3);
        wrong("take all but p0", 3);
        wrong("take all but it but it", 4);
        wrong("take them but it", 2);
        wrong("take n0 but it", 2);
        wrong("take it but it", 2);
        does("drop them", 2, 2);
    }

    private static void singles() {
        things(1);
        does("take n0", 1, 1);
        wrong("drop one", 1);
        wrong("drop the one", 2);
        wrong("drop all but one", 3);
        wrong("put n0 in the one", 4);
        does("drop a0 one", 1, 1);
        wrong("take a0", 2);
        wrong("take the", 2);
        wrong("take the it", 2);
        wrong("take a0 it", 2);
        wrong("take a0 the n0", 2);
        wrong("take the the n0", 2);
        does("take it", 1, 1);
    }

    private static void andBehindBut() {
        things(4);
        does("take a3 n0", 8, 8);
        does("take all but a0 n0 and a1 n0", 4, 4);
        does("drop all but a3 n0 and the a2 a2 p0", 4, 4);
        does("take all but a0 n0 and all a0 p0", 7, 7);
        does("drop all but a1 one and them", 15, 15);
        does("take all but a0 one and it and a2 n0", 10, 10);
        does("drop all but a1 n0 and a1 p0 and a1 n0", 10, 10);
        does("take all but a0 n0 and them and a0 n0", 15, 15);
        does("drop p0 but a0 n0 and a0 p0 but a1 n0 and a2 n0", 15, 15);
        wrong("take all but a0 n0 and", 6);
        wrong("take all but a0 n0 and but", 6);
        wrong("take all but a0 n0 and one", 6);
    }

    private static void wrongAtAWord() {
        things(2);
        wrong("take take", 1);
        wrong("take n0 n0 take take", 2);
        wrong("put n0 in n0 n0", 4);
        wrong("put" + times("it and", 11) + "in", 23);
        wrong("take" + times("a0", 22) + "it", 23);
        asks("take n0", 3, 1);
        wrong("and", 0);
        wrong("it", 0);
        wrong("the the a0", 1);
        wrong("one one", 1);
        wrong("a0 take", 1);
        wrong(times("a0", 23) + "p0", 23);
        wrong("the" + times("a0", 22) + "it", 23);
        question(3, 1);
    }

    private static void wrongBehindTheLastWord() {
        things(2);
        wrong("shut", 1);
        wrong("take" + times("a0", 23), 24);
        wrong("put" + times("it and", 11) + "it", 24);
        wrong("take all but it" + times("and it", 9) + "and the", 24);
        asks("take n0", 3, 1);
        wrong("the", 1);
        question(3, 1);
    }
}
