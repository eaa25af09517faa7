import java.util.ArrayList;
import java.util.HashMap;
import java.util.List;
import java.util.Map;
import java.util.TreeSet;

/**
 * The parlour once more, for tests, after the document's words and without a thought of cost: words
 * stay words, phrases are cut out of them, and what is open is thrown. It knows no wrong words: the
 * test gives it those places from the grammar.
 */
final class PlainParlour {
    static final int DONE = 0, ASKED = 1, EMPTY = 2, NO_VERB = 3, WRONG = 4, NOTHING = 5;
    private static final int TAKE = 0, DROP = 1, PUT = 2, OPEN = 3, SHUT = 4;
    private static final int THE = 10, ALL = 11, BUT = 12, AND = 13, IT = 14, THEM = 15, IN = 16, ONE = 17;
    private static final int ROOM = -2, HAND = -3, NONE = -1;

    private static final class Thing {
        int noun;
        int adjectives;
        boolean box;
        boolean open;
        int place = ROOM;
    }

    private static final class Open extends RuntimeException {
        private static final long serialVersionUID = 1L;
        final int at;
        final transient TreeSet<Integer> choice;

        Open(int at, TreeSet<Integer> choice) {
            this.at = at;
            this.choice = choice;
        }
    }

    final List<Thing> things = new ArrayList<>();
    int outcome = NONE;
    int wrongAt = NONE;
    int verb = NONE;
    TreeSet<Integer> meant = new TreeSet<>();
    TreeSet<Integer> done = new TreeSet<>();
    int into = NONE;
    TreeSet<Integer> asked = new TreeSet<>();
    int askedAt = NONE;
    int questions = 0;
    private final List<TreeSet<Integer>> history = new ArrayList<>();
    private List<Integer> order = new ArrayList<>();
    private final Map<Integer, Integer> answers = new HashMap<>();

    void thing(int noun, int adjectives, boolean box) {
        Thing thing = new Thing();
        thing.noun = noun;
        thing.adjectives = adjectives;
        thing.box = box;
        things.add(thing);
    }

    int place(int thing) {
        return things.get(thing).place;
    }

    boolean open(int thing) {
        return things.get(thing).open;
    }

    private boolean reaches(int thing) {
        int place = things.get(thing).place;
        return place < 0 || things.get(place).open && reaches(place);
    }

    private boolean isInside(int thing, int box) {
        int place = things.get(thing).place;
        return place == box || place >= 0 && isInside(place, box);
    }

    TreeSet<Integer> reach() {
        TreeSet<Integer> reach = new TreeSet<>();
        for (int k = 0; k < things.size(); k++) {
            if (reaches(k)) {
                reach.add(k);
            }
        }
        return reach;
    }

    private boolean suits(int word, int number) {
        Thing thing = things.get(number);
        if (!reaches(number)) {
            return false;
        }
        if (word == TAKE) {
            return thing.place != HAND;
        }
        if (word == DROP || word == PUT) {
            return thing.place == HAND;
        }
        return word == OPEN ? thing.box && !thing.open : thing.box && thing.open;
    }

    /** Says words that are wrong at a place, or at none. */
    int say(List<Integer> words, int wrongPlace) {
        wrongAt = NONE;
        outcome = understand(words, wrongPlace);
        if (outcome == ASKED) {
            questions++;
        }
        return outcome;
    }

    private int understand(List<Integer> words, int wrongPlace) {
        if (words.isEmpty()) {
            return EMPTY;
        }
        boolean newOrder = words.get(0) <= SHUT;
        if (!newOrder && asked.isEmpty()) {
            return NO_VERB;
        }
        if (newOrder) {
            asked = new TreeSet<>();
            askedAt = NONE;
        }
        if (wrongPlace != NONE) {
            wrongAt = wrongPlace;
            return WRONG;
        }
        if (newOrder) {
            order = new ArrayList<>(words);
            answers.clear();
        } else {
            TreeSet<Integer> left = new TreeSet<>();
            for (int thing : asked) {
                if (has(thing, words)) {
                    left.add(thing);
                }
            }
            if (left.isEmpty()) {
                return NOTHING;
            }
            if (left.size() > 1) {
                asked = left;
                return ASKED;
            }
            answers.put(askedAt, left.first());
        }
        return look();
    }

    private int look() {
        try {
            doOrder();
            asked = new TreeSet<>();
            askedAt = NONE;
            return DONE;
        } catch (Open open) {
            asked = open.choice;
            askedAt = open.choice.isEmpty() ? NONE : open.at;
            wrongAt = open.choice.isEmpty() ? open.at : NONE;
            return open.choice.isEmpty() ? NOTHING : ASKED;
        }
    }

    private void doOrder() {
        int in = order.indexOf(IN);
        TreeSet<Integer> group = group(1, in < 0 ? order.size() : in);
        int target = in < 0 ? NONE : single(in + 1, order.size(), IN);
        TreeSet<Integer> carried = new TreeSet<>();
        for (int thing : group) {
            if (suits(order.get(0), thing) && carry(order.get(0), thing, target)) {
                carried.add(thing);
            }
        }
        verb = order.get(0);
        meant = group;
        done = carried;
        into = target;
        history.add(group);
    }

    private boolean carry(int how, int number, int target) {
        Thing thing = things.get(number);
        if (how == PUT) {
            if (!suits(IN, target) || target == number || isInside(target, number)) {
                return false;
            }
            thing.place = target;
        } else if (how == TAKE || how == DROP) {
            thing.place = how == TAKE ? HAND : ROOM;
        } else {
            thing.open = how == OPEN;
        }
        return true;
    }

    /** The words from a place up to another, cut at AND; pieces that go on behind BUT belong to it. */
    private TreeSet<Integer> group(int from, int to) {
        TreeSet<Integer> all = new TreeSet<>();
        int at = from;
        while (at < to) {
            int end = cut(at, to, AND);
            int but = cut(at, end, BUT);
            TreeSet<Integer> leftOut = new TreeSet<>();
            int next = end + 1;
            if (but < end) {
                leftOut.add(single(but + 1, end, order.get(0)));
                while (next < to && isSingle(next, cut(next, to, AND))) {
                    int behind = cut(next, to, AND);
                    leftOut.add(single(next, behind, order.get(0)));
                    next = behind + 1;
                }
            }
            all.addAll(part(at, but, leftOut));
            at = next;
        }
        return all;
    }

    private int cut(int from, int to, int word) {
        int at = from;
        while (at < to && order.get(at) != word) {
            at++;
        }
        return at;
    }

    private boolean isSingle(int from, int to) {
        int last = order.get(to - 1);
        return !order.subList(from, to).contains(BUT)
                && (last == IT || last == ONE || last >= 30 && last < 40);
    }

    private TreeSet<Integer> part(int from, int to, TreeSet<Integer> leftOut) {
        int last = order.get(to - 1);
        TreeSet<Integer> found = new TreeSet<>();
        if (last == THEM) {
            if (!history.isEmpty()) {
                found.addAll(history.get(history.size() - 1));
            }
            found.retainAll(reach());
        } else if (last == ALL || last >= 40) {
            for (int thing : reach()) {
                if (suits(order.get(0), thing) && has(thing, order.subList(from, to)) && !leftOut.contains(thing)) {
                    found.add(thing);
                }
            }
        } else {
            found.add(single(from, to, order.get(0)));
        }
        if (found.isEmpty()) {
            throw new Open(to - 1, new TreeSet<>());
        }
        return found;
    }

    private int single(int from, int to, int suiting) {
        int at = to - 1;
        if (order.get(at) == IT) {
            for (int k = history.size() - 1; k >= 0; k--) {
                if (history.get(k).size() == 1) {
                    int thing = history.get(k).first();
                    if (reaches(thing)) {
                        return thing;
                    }
                    break;
                }
            }
            throw new Open(at, new TreeSet<>());
        }
        if (answers.containsKey(at)) {
            return answers.get(at);
        }
        TreeSet<Integer> fitting = new TreeSet<>();
        TreeSet<Integer> suited = new TreeSet<>();
        for (int thing : reach()) {
            if (has(thing, order.subList(from, to))) {
                fitting.add(thing);
                if (suits(suiting, thing)) {
                    suited.add(thing);
                }
            }
        }
        if (fitting.size() == 1) {
            return fitting.first();
        }
        if (suited.size() == 1) {
            return suited.first();
        }
        throw new Open(at, suited.isEmpty() ? fitting : suited);
    }

    /** Whether a thing has all adjectives and the noun among the words. */
    private boolean has(int thing, List<Integer> words) {
        for (int word : words) {
            boolean misses = word >= 20 && word < 30 && (things.get(thing).adjectives >> word - 20 & 1) == 0
                    || word >= 30 && things.get(thing).noun != word % 10;
            if (misses) {
                return false;
            }
        }
        return true;
    }
}
