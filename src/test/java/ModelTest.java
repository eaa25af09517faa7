import java.util.ArrayList;
import java.util.Collection;
import java.util.List;

/** Long runs of calls, the same for a parlour and a plainer one; each answer is compared. */
public final class ModelTest {
    private static final int RUNS = 8000;
    private static final int MOST_CALLS = 512;
    private static final int MOST_WORDS = 24;
    /** One thing, words that are given and taken back, say(), and what is compared. */
    private static final int MOST_CALLS_OF_A_TURN = 1 + 3 * MOST_WORDS + 1 + 10 + 24;
    private static final int[] outcomes = new int[6];
    private static int lot = 7;
    private static int calls = 0;
    private static int answersThatAskedOn = 0;
    private static int answersThatMeantNothing = 0;

    public static void main(String[] args) {
        for (int run = 0; run < RUNS; run++) {
            oneRun(run);
        }
        for (int outcome = 0; outcome < outcomes.length; outcome++) {
            Check.due("the runs met the outcome " + outcome, 1, outcomes[outcome] > 1000 ? 1 : 0);
        }
        Check.due("the runs met answers that asked on", 1, answersThatAskedOn > 1000 ? 1 : 0);
        Check.due("the runs met answers that meant nothing", 1, answersThatMeantNothing > 1000 ? 1 : 0);
        Check.end();
    }

    private static void oneRun(int run) {
        ParserParlour parlour = new ParserParlour();
        PlainParlour plain = new PlainParlour();
        int nouns = 1 + draw(3);
        int adjectives = 1 + draw(3);
        int atFirst = draw(9);
        calls = 0;
        for (int k = 0; k < atFirst; k++) {
            addThing(parlour, plain, nouns, adjectives);
        }
        for (int turn = 0; calls + MOST_CALLS_OF_A_TURN <= MOST_CALLS; turn++) {
            if (draw(10) == 0) {
                addThing(parlour, plain, nouns, adjectives);
            }
            boolean asked = !plain.asked.isEmpty();
            List<Integer> words = asked && draw(6) > 0 ? answer(nouns, adjectives) : order(nouns, adjectives);
            if (draw(12) == 0) {
                spoil(words);
            }
            while (words.size() > MOST_WORDS) {
                words.remove(words.size() - 1);
            }
            say(parlour, plain, words);
            String where = "run " + run + ", turn " + turn + ", words " + words;
            compareWords(where, parlour, plain);
            if (turn % 4 == run % 4) {
                compareThings(where, parlour, plain);
            }
            boolean wasAnswer = asked && !words.isEmpty() && words.get(0) > ParserParlour.SHUT;
            answersThatAskedOn += wasAnswer && plain.outcome == PlainParlour.ASKED ? 1 : 0;
            answersThatMeantNothing += wasAnswer && plain.outcome == PlainParlour.NOTHING ? 1 : 0;
        }
    }

    private static void addThing(ParserParlour parlour, PlainParlour plain, int nouns, int adjectives) {
        if (plain.things.size() < 12) {
            int noun = draw(nouns);
            int set = draw(1 << adjectives);
            boolean box = draw(2) == 0;
            calls++;
            parlour.thing(noun, set, box);
            plain.thing(noun, set, box);
        }
    }

    private static void say(ParserParlour parlour, PlainParlour plain, List<Integer> words) {
        for (int word : words) {
            if (draw(20) == 0) {
                calls += 2;
                parlour.word(ParserParlour.IT);
                parlour.back();
            }
            calls++;
            parlour.word(word);
        }
        calls++;
        parlour.say();
        plain.say(words, Grammar.wrongAt(words));
        outcomes[plain.outcome]++;
    }

    private static void compareWords(String where, ParserParlour parlour, PlainParlour plain) {
        calls += 10;
        Check.due(where + ": outcome", plain.outcome, parlour.outcome());
        Check.due(where + ": wrongAt", plain.wrongAt, parlour.wrongAt());
        Check.due(where + ": verb", plain.verb, parlour.verb());
        Check.due(where + ": meant", bits(plain.meant), parlour.meant());
        Check.due(where + ": done", bits(plain.done), parlour.done());
        Check.due(where + ": into", plain.into, parlour.into());
        Check.due(where + ": asked", bits(plain.asked), parlour.asked());
        Check.due(where + ": askedAt", plain.askedAt, parlour.askedAt());
        Check.due(where + ": questions", plain.questions, parlour.questions());
        Check.due(where + ": inReach", bits(plain.reach()), parlour.inReach());
    }

    private static void compareThings(String where, ParserParlour parlour, PlainParlour plain) {
        calls += 2 * plain.things.size();
        for (int k = 0; k < plain.things.size(); k++) {
            Check.due(where + ": placeOf " + k, plain.place(k), parlour.placeOf(k));
            Check.due(where + ": isOpen " + k, plain.open(k) ? 1 : 0, parlour.isOpen(k) ? 1 : 0);
        }
    }

    private static long bits(Collection<Integer> set) {
        long bits = 0;
        for (int thing : set) {
            bits |= 1L << thing;
        }
        return bits;
    }

    // ---- words

    private static List<Integer> order(int nouns, int adjectives) {
        List<Integer> words = new ArrayList<>();
        int verb = new int[] {0, 0, 0, 1, 2, 2, 2, 3, 3, 4}[draw(10)];
        words.add(verb);
        int parts = 1 + draw(3) * draw(2);
        for (int k = 0; k < parts; k++) {
            if (k > 0) {
                words.add(ParserParlour.AND);
            }
            addPart(words, nouns, adjectives);
        }
        if (verb == ParserParlour.PUT) {
            words.add(ParserParlour.IN);
            addSingle(words, nouns, adjectives);
        }
        return words;
    }

    private static void addPart(List<Integer> words, int nouns, int adjectives) {
        int kind = draw(8);
        if (kind == 0) {
            words.add(ParserParlour.THEM);
        } else if (kind < 4) {
            if (kind == 1) {
                words.add(ParserParlour.ALL);
            } else {
                maybe(words, kind == 2 ? ParserParlour.ALL : ParserParlour.THE);
                addAdjectives(words, adjectives, draw(2));
                words.add(ParserParlour.PLURAL + draw(nouns));
            }
            if (draw(2) == 0) {
                words.add(ParserParlour.BUT);
                addSingle(words, nouns, adjectives);
                while (draw(3) == 0) {
                    words.add(ParserParlour.AND);
                    addSingle(words, nouns, adjectives);
                }
            }
        } else {
            addSingle(words, nouns, adjectives);
        }
    }

    private static void addSingle(List<Integer> words, int nouns, int adjectives) {
        int kind = draw(5);
        if (kind == 0) {
            words.add(ParserParlour.IT);
            return;
        }
        maybe(words, ParserParlour.THE);
        addAdjectives(words, adjectives, kind == 1 ? 1 + draw(2) : draw(3));
        words.add(kind == 1 ? ParserParlour.ONE : ParserParlour.NOUN + draw(nouns));
    }

    private static List<Integer> answer(int nouns, int adjectives) {
        List<Integer> words = new ArrayList<>();
        maybe(words, ParserParlour.THE);
        addAdjectives(words, adjectives, draw(3));
        int kind = draw(4);
        if (kind == 0) {
            words.add(ParserParlour.NOUN + draw(nouns));
        } else if (kind == 1) {
            words.add(ParserParlour.ONE);
        }
        return words;
    }

    private static void addAdjectives(List<Integer> words, int adjectives, int count) {
        for (int k = 0; k < count; k++) {
            words.add(ParserParlour.ADJECTIVE + draw(adjectives));
        }
    }

    private static void maybe(List<Integer> words, int word) {
        if (draw(2) == 0) {
            words.add(word);
        }
    }

    /** Another word somewhere, or one less. */
    private static void spoil(List<Integer> words) {
        int[] all = {0, 2, 10, 11, 12, 13, 14, 15, 16, 17, 20, 30, 40};
        if (!words.isEmpty() && draw(2) == 0) {
            words.remove(draw(words.size()));
        } else {
            words.add(draw(words.size() + 1), all[draw(all.length)]);
        }
    }

    private static int draw(int bound) {
        lot = lot * 1103515245 + 12345;
        return (lot >>> 8) % bound;
    }
}
