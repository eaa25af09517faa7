/**
 * A parser of orders for a parlour game: an order is given word by word, is understood, and is
 * done with the things of a small world; when it is not clear which thing is meant, it asks back.
 * Sets of things are told as bits, bit k for the thing k.
 */
public final class ParserParlour {
    public static final int NONE = -1, ROOM = -2, HAND = -3;
    public static final int TAKE = 0, DROP = 1, PUT = 2, OPEN = 3, SHUT = 4;
    public static final int THE = 10, ALL = 11, BUT = 12, AND = 13, IT = 14, THEM = 15, IN = 16, ONE = 17;
    public static final int ADJECTIVE = 20, NOUN = 30, PLURAL = 40;
    public static final int DONE = 0, ASKED = 1, EMPTY = 2, NO_VERB = 3, WRONG = 4, NOTHING = 5;

    private static final int MOST_THINGS = 12;
    private static final int MOST_WORDS = 24;
    private static final int NOUN_COUNT = 8;
    private static final int ADJECTIVE_COUNT = 6;
    private static final int ADJECTIVE_SETS = 1 << ADJECTIVE_COUNT;

    private final World world;
    private final Words words;
    /** The order that was heard last; while there is a question, it is the kept one. */
    private final Order order;
    private final Memory memory;
    private final Meaning meaning;
    private int lastOutcome;
    private int wrongPlace;
    /** The things that the question is about; empty if there is no question. */
    private int askedThings;
    private int askedPhrase;
    private int questionCount;

    public ParserParlour() {
        world = new World();
        words = new Words();
        order = new Order();
        memory = new Memory();
        meaning = new Meaning(world, order, memory);
        lastOutcome = NONE;
        wrongPlace = NONE;
        askedThings = 0;
        askedPhrase = NONE;
        questionCount = 0;
    }

    // ---- things

    public int thing(int noun, int adjectives, boolean box) throws IllegalArgumentException, IllegalStateException {
        if (noun < 0 || noun >= NOUN_COUNT) {
            throw new IllegalArgumentException("no such noun");
        }
        if (adjectives < 0 || adjectives >= ADJECTIVE_SETS) {
            throw new IllegalArgumentException("no such set of adjectives");
        }
        if (world.count >= MOST_THINGS) {
            throw new IllegalStateException("there are 12 things");
        }
        return world.add(noun, adjectives, box);
    }

    public int placeOf(int thing) throws IndexOutOfBoundsException {
        if (!world.has(thing)) {
            throw new IndexOutOfBoundsException("no such thing");
        }
        return world.holderOf(thing);
    }

    public boolean isOpen(int thing) throws IndexOutOfBoundsException {
        if (!world.has(thing)) {
            throw new IndexOutOfBoundsException("no such thing");
        }
        return contains(world.openBoxes, thing);
    }

    public int inReach() {
        return world.reachable();
    }

    // ---- words

    public int word(int word) throws IllegalArgumentException, IllegalStateException {
        if (!isWord(word)) {
            throw new IllegalArgumentException("no such word");
        }
        if (words.count >= MOST_WORDS) {
            throw new IllegalStateException("there are 24 words");
        }
        words.add(word);
        return words.count;
    }

    public int back() throws IllegalStateException {
        if (words.count <= 0) {
            throw new IllegalStateException("there are no words");
        }
        return words.removeLast();
    }

    public int say() {
        wrongPlace = NONE;
        if (words.count == 0) {
            lastOutcome = EMPTY;
        } else if (isVerb(words.peek())) {
            lastOutcome = hearOrder();
        } else if (askedThings != 0) {
            lastOutcome = hearAnswer();
        } else {
            lastOutcome = NO_VERB;
        }
        if (lastOutcome == ASKED) {
            questionCount++;
        }
        words.clear();
        return lastOutcome;
    }

    // ---- meanings

    public int outcome() {
        return lastOutcome;
    }

    public int wrongAt() {
        return wrongPlace;
    }

    public int verb() {
        return memory.lastVerb;
    }

    public int meant() {
        return memory.lastMeant;
    }

    public int done() {
        return memory.lastDone;
    }

    public int into() {
        return memory.lastTarget;
    }

    public int asked() {
        return askedThings;
    }

    public int askedAt() {
        return askedThings == 0 ? NONE : order.lastPlaceOf(askedPhrase);
    }

    public int questions() {
        return questionCount;
    }

    // ---- hearing

    private int hearOrder() {
        dropQuestion();
        if (!order.read(words)) {
            wrongPlace = words.place;
            return WRONG;
        }
        return lookAtOrder();
    }

    private int hearAnswer() {
        if (!words.readAnswer()) {
            wrongPlace = words.place;
            return WRONG;
        }
        int left = world.described(askedThings, words.adjectives, words.noun);
        if (left == 0) {
            return NOTHING;
        }
        if (Integer.bitCount(left) > 1) {
            askedThings = left;
            return ASKED;
        }
        order.answer(askedPhrase, left);
        dropQuestion();
        return lookAtOrder();
    }

    private void dropQuestion() {
        askedThings = 0;
        askedPhrase = NONE;
    }

    private int lookAtOrder() {
        int result = meaning.find();
        if (result == NOTHING) {
            wrongPlace = order.lastPlaceOf(meaning.openPhrase);
        } else if (result == ASKED) {
            askedThings = meaning.choice;
            askedPhrase = meaning.openPhrase;
        } else {
            carryOut();
        }
        return result;
    }

    private void carryOut() {
        int carried = 0;
        for (int thing = 0; thing < MOST_THINGS; thing++) {
            if (contains(meaning.group, thing) && world.perform(order.orderVerb, thing, meaning.target)) {
                carried |= 1 << thing;
            }
        }
        memory.keep(order.orderVerb, meaning.group, carried, meaning.target);
    }

    // ---- sets and words

    private static boolean contains(int set, int thing) {
        return thing >= 0 && thing < MOST_THINGS && (set >> thing & 1) != 0;
    }

    private static boolean isBetween(int word, int first, int size) {
        return word >= first && word < first + size;
    }

    private static boolean isVerb(int word) {
        return word >= TAKE && word <= SHUT;
    }

    private static boolean isWord(int word) {
        return isVerb(word) || word >= THE && word <= ONE || isBetween(word, ADJECTIVE, ADJECTIVE_COUNT)
                || isBetween(word, NOUN, NOUN_COUNT) || isBetween(word, PLURAL, NOUN_COUNT);
    }

    /** The things, where they are, and what can be done with them. */
    private static final class World {
        private final int[] nouns;
        private final int[] adjectiveSets;
        private final int[] holders;
        private int count;
        private int boxes;
        private int openBoxes;

        World() {
            nouns = new int[MOST_THINGS];
            adjectiveSets = new int[MOST_THINGS];
            holders = new int[MOST_THINGS];
            count = 0;
            boxes = 0;
            openBoxes = 0;
        }

        int add(int noun, int adjectives, boolean box) {
            int number = count;
            if (number < 0 || number >= MOST_THINGS) {
                return NONE;
            }
            nouns[number] = noun;
            adjectiveSets[number] = adjectives;
            holders[number] = ROOM;
            if (box) {
                boxes |= 1 << number;
            }
            count++;
            return number;
        }

        boolean has(int thing) {
            return thing >= 0 && thing < count && thing < MOST_THINGS;
        }

        /** ROOM, HAND, or the box that the thing is in. */
        int holderOf(int thing) {
            return thing >= 0 && thing < count && thing < MOST_THINGS ? holders[thing] : ROOM;
        }

        int reachable() {
            int reach = 0;
            for (int thing = 0; thing < count; thing++) {
                int holder = holderOf(thing);
                for (int level = 0; level < MOST_THINGS && contains(openBoxes, holder); level++) {
                    holder = holderOf(holder);
                }
                if (holder < 0) {
                    reach |= 1 << thing;
                }
            }
            return reach;
        }

        /** Those of the things that have all the adjectives, and the noun, if it is not NONE. */
        int described(int things, int adjectives, int noun) {
            int fitting = 0;
            for (int thing = 0; thing < count && thing < MOST_THINGS; thing++) {
                boolean named = noun == NONE || nouns[thing] == noun;
                if ((things >> thing & 1) != 0 && named && (adjectives & ~adjectiveSets[thing]) == 0) {
                    fitting |= 1 << thing;
                }
            }
            return fitting;
        }

        /** The things that a verb, or IN, suits. */
        int suited(int verb) {
            int reach = reachable();
            switch (verb) {
                case TAKE:
                    return reach & ~held();
                case DROP:
                case PUT:
                    return reach & held();
                case OPEN:
                    return reach & boxes & ~openBoxes;
                case SHUT:
                case IN:
                    return reach & openBoxes;
                default:
                    return 0;
            }
        }

        private int held() {
            int inHand = 0;
            for (int thing = 0; thing < count && thing < MOST_THINGS; thing++) {
                if (holders[thing] == HAND) {
                    inHand |= 1 << thing;
                }
            }
            return inHand;
        }

        /** Returns whether the order was done with the thing. */
        boolean perform(int verb, int thing, int target) {
            if (!has(thing) || !contains(suited(verb), thing)) {
                return false;
            }
            switch (verb) {
                case TAKE:
                    holders[thing] = HAND;
                    return true;
                case DROP:
                    holders[thing] = ROOM;
                    return true;
                case PUT:
                    if (!contains(suited(IN), target) || isWithin(target, thing)) {
                        return false;
                    }
                    holders[thing] = target;
                    return true;
                case OPEN:
                    openBoxes |= 1 << thing;
                    return true;
                case SHUT:
                    openBoxes &= ~(1 << thing);
                    return true;
                default:
                    return false;
            }
        }

        /** Whether a thing is the box itself, or inside it. */
        private boolean isWithin(int thing, int box) {
            int at = thing;
            for (int level = 0; level < MOST_THINGS && at >= 0 && at != box; level++) {
                at = holderOf(at);
            }
            return at == box;
        }
    }

    /** The words given so far, and the place up to which they were read. */
    private static final class Words {
        private final int[] given;
        private int count;
        private int place;
        /** What was read of the phrase that is being read. */
        private int adjectives;
        private int noun;

        Words() {
            given = new int[MOST_WORDS];
            count = 0;
            place = 0;
            adjectives = 0;
            noun = NONE;
        }

        void clear() {
            count = 0;
            place = 0;
        }

        void add(int word) {
            if (count >= 0 && count < MOST_WORDS) {
                given[count] = word;
                count++;
            }
        }

        int removeLast() {
            if (count <= 0 || count > MOST_WORDS) {
                return NONE;
            }
            count--;
            return given[count];
        }

        boolean atEnd() {
            return place == count;
        }

        /** The word that is read next; NONE behind the last one. */
        int peek() {
            return place >= 0 && place < count && place < MOST_WORDS ? given[place] : NONE;
        }

        boolean accept(int word) {
            if (peek() != word) {
                return false;
            }
            place++;
            return true;
        }

        /** adjectives; the noun of an earlier phrase is forgotten. */
        void readAdjectives() {
            adjectives = 0;
            noun = NONE;
            for (int turn = 0; turn < MOST_WORDS && isBetween(peek(), ADJECTIVE, ADJECTIVE_COUNT); turn++) {
                adjectives |= 1 << peek() - ADJECTIVE;
                place++;
            }
        }

        /** A noun or a plural: first is NOUN or PLURAL. */
        boolean acceptNoun(int first) {
            if (!isBetween(peek(), first, NOUN_COUNT)) {
                return false;
            }
            noun = peek() - first;
            place++;
            return true;
        }

        /** [THE] adjectives [noun | ONE], at least one word other than THE. */
        boolean readAnswer() {
            accept(THE);
            readAdjectives();
            boolean headed = acceptNoun(NOUN) || accept(ONE);
            return atEnd() && (headed || adjectives != 0);
        }
    }

    /** An order as its phrases: singles, and parts without what BUT leaves out, which follow them. */
    private static final class Order {
        /** What a phrase is for. */
        private static final int GROUP = 0, LEFT_OUT = 1, TARGET = 2;

        private int orderVerb;
        private int count;
        private final int[] roles;
        /** IT, THEM, ALL (also for a plural) or ONE (also for a noun). */
        private final int[] kinds;
        private final int[] adjectiveSets;
        private final int[] nouns;
        private final int[] lastPlaces;
        /** The thing that was answered, as a set; empty without an answer. */
        private final int[] answers;

        Order() {
            orderVerb = NONE;
            count = 0;
            roles = new int[MOST_WORDS];
            kinds = new int[MOST_WORDS];
            adjectiveSets = new int[MOST_WORDS];
            nouns = new int[MOST_WORDS];
            lastPlaces = new int[MOST_WORDS];
            answers = new int[MOST_WORDS];
        }

        /** Reads an order; if it is none, the words stay at the place at which they are wrong. */
        boolean read(Words words) {
            count = 0;
            orderVerb = words.peek();
            words.accept(orderVerb);
            boolean goesOn = true;
            for (int parts = 0; parts < MOST_WORDS && goesOn; parts++) {
                if (!readPart(words)) {
                    return false;
                }
                goesOn = words.accept(AND);
            }
            if (orderVerb == PUT && !(words.accept(IN) && readSingle(words, TARGET))) {
                return false;
            }
            return words.atEnd();
        }

        /** A part; or, behind AND, one more single that is left out. */
        private boolean readPart(Words words) {
            if (words.accept(THEM)) {
                return add(THEM, GROUP, words);
            }
            if (words.peek() == IT) {
                return readSingle(words, nextSingleRole());
            }
            boolean all = words.accept(ALL);
            if (!all) {
                words.accept(THE);
            }
            words.readAdjectives();
            boolean bareAll = all && words.adjectives == 0;
            if (!words.acceptNoun(PLURAL) && !bareAll) {
                return !all && readHead(words, nextSingleRole());
            }
            return add(ALL, GROUP, words) && (!words.accept(BUT) || readSingle(words, LEFT_OUT));
        }

        private boolean readSingle(Words words, int role) {
            if (words.accept(IT)) {
                return add(IT, role, words);
            }
            words.accept(THE);
            words.readAdjectives();
            return readHead(words, role);
        }

        /** The noun, or ONE, behind the adjectives of a single. */
        private boolean readHead(Words words, int role) {
            if (words.acceptNoun(NOUN) || words.adjectives != 0 && words.accept(ONE)) {
                return add(ONE, role, words);
            }
            return false;
        }

        /** Behind a single that is left out, AND and one more single go on leaving out. */
        private int nextSingleRole() {
            return roleOf(count - 1) == LEFT_OUT ? LEFT_OUT : GROUP;
        }

        private boolean add(int kind, int role, Words words) {
            if (count < 0 || count >= MOST_WORDS) {
                return false;
            }
            roles[count] = role;
            kinds[count] = kind;
            adjectiveSets[count] = words.adjectives;
            nouns[count] = words.noun;
            lastPlaces[count] = words.place - 1;
            answers[count] = 0;
            count++;
            return true;
        }

        boolean hasPhrase(int phrase) {
            return phrase >= 0 && phrase < count && phrase < MOST_WORDS;
        }

        int roleOf(int phrase) {
            return hasPhrase(phrase) ? roles[phrase] : GROUP;
        }

        int lastPlaceOf(int phrase) {
            return hasPhrase(phrase) ? lastPlaces[phrase] : NONE;
        }

        void answer(int phrase, int thing) {
            if (hasPhrase(phrase)) {
                answers[phrase] = thing;
            }
        }
    }

    /** What is known of the orders that were done. */
    private static final class Memory {
        private int lastVerb;
        private int lastMeant;
        private int lastDone;
        private int lastTarget;
        /** What IT means, as a set: the last thing that was meant alone. */
        private int lastAlone;

        Memory() {
            lastVerb = NONE;
            lastMeant = 0;
            lastDone = 0;
            lastTarget = NONE;
            lastAlone = 0;
        }

        void keep(int verb, int meant, int done, int target) {
            lastVerb = verb;
            lastMeant = meant;
            lastDone = done;
            lastTarget = target;
            if (Integer.bitCount(meant) == 1) {
                lastAlone = meant;
            }
        }
    }

    /** Finds what the phrases of an order mean, one by one, up to the first that stays open. */
    private static final class Meaning {
        private final World world;
        private final Order order;
        private final Memory memory;
        private int reach;
        private int result;
        private int group;
        private int target;
        /** The phrase that means NOTHING or is asked about. */
        private int openPhrase;
        private int choice;

        Meaning(World world, Order order, Memory memory) {
            this.world = world;
            this.order = order;
            this.memory = memory;
            start(0);
        }

        private void start(int thingsInReach) {
            reach = thingsInReach;
            result = DONE;
            group = 0;
            target = NONE;
            openPhrase = NONE;
            choice = 0;
        }

        /** Returns DONE if everything is found, otherwise ASKED or NOTHING. */
        int find() {
            start(world.reachable());
            int suited = world.suited(order.orderVerb);
            for (int phrase = 0; phrase < order.count && result == DONE; phrase++) {
                int role = order.roleOf(phrase);
                if (role == Order.GROUP) {
                    group |= findPart(phrase, suited);
                } else if (role == Order.TARGET) {
                    target = onlyOf(findSingle(phrase, world.suited(IN)));
                }
            }
            return result;
        }

        /** The thing in a set of one; NONE if the set is empty. */
        private int onlyOf(int set) {
            for (int thing = 0; thing < MOST_THINGS; thing++) {
                if (contains(set, thing)) {
                    return thing;
                }
            }
            return NONE;
        }

        /** The singles that a part leaves out are found ahead of the part itself. */
        private int findPart(int phrase, int suited) {
            int leftOut = 0;
            for (int next = phrase + 1; next < order.count && result == DONE; next++) {
                if (order.roleOf(next) != Order.LEFT_OUT) {
                    break;
                }
                leftOut |= findSingle(next, suited);
            }
            if (result != DONE || !order.hasPhrase(phrase)) {
                return 0;
            }
            switch (order.kinds[phrase]) {
                case THEM:
                    return orNothing(memory.lastMeant & reach, phrase);
                case ALL:
                    return orNothing(fitting(phrase) & suited & ~leftOut, phrase);
                default:
                    return findSingle(phrase, suited);
            }
        }

        /** Finds a single; suited are the things that the verb suits or, behind IN, that IN suits. */
        private int findSingle(int phrase, int suited) {
            if (!order.hasPhrase(phrase)) {
                return 0;
            }
            if (order.answers[phrase] != 0) {
                return order.answers[phrase];
            }
            if (order.kinds[phrase] == IT) {
                return orNothing(memory.lastAlone & reach, phrase);
            }
            int fitting = fitting(phrase);
            if (Integer.bitCount(fitting) <= 1) {
                return orNothing(fitting, phrase);
            }
            int both = fitting & suited;
            return Integer.bitCount(both) == 1 ? both : ask(both == 0 ? fitting : both, phrase);
        }

        private int fitting(int phrase) {
            if (!order.hasPhrase(phrase)) {
                return 0;
            }
            return world.described(reach, order.adjectiveSets[phrase], order.nouns[phrase]);
        }

        private int orNothing(int set, int phrase) {
            if (set == 0) {
                result = NOTHING;
                openPhrase = phrase;
            }
            return set;
        }

        private int ask(int things, int phrase) {
            result = ASKED;
            openPhrase = phrase;
            choice = things;
            return 0;
        }
    }
}
