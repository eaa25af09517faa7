/** Tests of single sentences: each is told with its sentence, which is printed if it fails. */
abstract class Edges extends Trial {
    static final int MOST_THINGS = 12, MOST_WORDS = 24, MOST_CALLS = 512;
    static final int ALL_THINGS = 4095;
    /** Numbers far from every range, also those that wrap around. */
    private static final int[] FAR = {Integer.MIN_VALUE, Integer.MIN_VALUE + 1, Integer.MIN_VALUE + 30, -65536, -256,
        -64, 64, 128, 256, 65536, Integer.MAX_VALUE - 1, Integer.MAX_VALUE};

    static void edge(String sentence, Runnable test) {
        int before = Check.wrongSoFar();
        test.run();
        if (Check.wrongSoFar() > before) {
            System.out.println("^ " + sentence);
        }
    }

    // ---- worlds

    /** Boxes that have a name each; all in the room, and shut. */
    static void named(int count) {
        parlour = new ParserParlour();
        for (int k = 0; k < count; k++) {
            parlour.thing(k % 8, 1 << k / 8, true);
        }
    }

    static String name(int thing) {
        return "a" + thing / 8 + " n" + thing % 8;
    }

    /** Twelve open boxes, each but the first in the one before it, the first in the room. */
    static void nest() {
        named(MOST_THINGS);
        says("open all", DONE);
        for (int k = 1; k < MOST_THINGS; k++) {
            says("take " + name(k), DONE);
            says("put it in " + name(k - 1), DONE);
            Check.due("the box of " + k, k - 1, parlour.placeOf(k));
        }
    }

    // ---- words

    static String times(String words, int count) {
        return (" " + words).repeat(count) + " ";
    }

    // ---- what is due

    static void reach(int want) {
        Check.due("inReach", want, parlour.inReach());
    }

    static void questions(int want) {
        Check.due("questions", want, parlour.questions());
    }

    static void refusesThing(Class<? extends Exception> due, int noun, int adjectives) {
        Check.throwsA(due, "thing(" + noun + ", " + adjectives + ")", () -> parlour.thing(noun, adjectives, true));
    }

    static void refusesWord(Class<? extends Exception> due, int word) {
        Check.throwsA(due, "word(" + word + ")", () -> parlour.word(word));
    }

    static void refusesBack() {
        Check.throwsA(IllegalStateException.class, "back()", () -> parlour.back());
    }

    static void refusesNumber(int number) {
        Check.throwsA(IndexOutOfBoundsException.class, "placeOf(" + number + ")", () -> parlour.placeOf(number));
        Check.throwsA(IndexOutOfBoundsException.class, "isOpen(" + number + ")", () -> parlour.isOpen(number));
    }

    static void refusesFarThings(Class<? extends Exception> due) {
        for (int far : FAR) {
            refusesThing(due, far, 0);
            refusesThing(due, 0, far);
        }
    }

    static void refusesFarWords() {
        for (int far : FAR) {
            refusesWord(IllegalArgumentException.class, far);
        }
    }

    static void refusesFarNumbers() {
        for (int far : FAR) {
            refusesNumber(far);
        }
    }
}
