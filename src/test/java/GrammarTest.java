/** The grammar, written a second time as an expression: every short row of words, and long ones. */
public final class GrammarTest {
    private static final String SIGNS = Grammar.SIGNS;
    private static final int SHORT_ORDER = 7;
    private static final int SHORT_ANSWER = 6;
    private static final int LONG_ROWS = 20000;
    private static final int MOST_WORDS = 24;

    private static int lot = 1;
    private static int tried = 0;

    public static void main(String[] args) {
        everyRow("", Grammar.ORDER, false, SHORT_ORDER);
        everyRow("", Grammar.ANSWER, true, SHORT_ANSWER);
        for (int row = 0; row < LONG_ROWS; row++) {
            longRow(Grammar.ORDER);
        }
        Check.due("rows were tried", 1, tried > 100000 ? 1 : 0);
        Check.end();
    }

    /** All rows that begin with the signs, which are the beginning of something right. */
    private static void everyRow(String signs, Expression rest, boolean answer, int most) {
        if (!signs.isEmpty()) {
            dueIs(signs, answer, rest.matchesEmpty() ? ParserParlour.NONE : signs.length());
        }
        for (char sign : SIGNS.toCharArray()) {
            boolean beginsOrder = sign == 'v' || sign == 'p';
            if (signs.isEmpty() && beginsOrder == answer) {
                continue;
            }
            Expression behind = rest.behind(sign);
            if (behind == Expression.NEVER) {
                dueIs(signs + sign, answer, signs.length());
                dueIs(signs + sign + "n", answer, signs.length());
            } else if (signs.length() < most) {
                everyRow(signs + sign, behind, answer, most);
            }
        }
    }

    private static void longRow(Expression start) {
        StringBuilder signs = new StringBuilder();
        Expression rest = start;
        int wrongAt = -1;
        int length = 8 + draw(MOST_WORDS - 7);
        while (signs.length() < length) {
            char sign = SIGNS.charAt(signs.length() == 0 ? draw(2) : draw(SIGNS.length()));
            Expression behind = rest.behind(sign);
            if (behind != Expression.NEVER) {
                signs.append(sign);
                rest = behind;
            } else if (draw(60) == 0) {
                wrongAt = signs.length();
                signs.append(sign);
                while (signs.length() < length) {
                    signs.append(SIGNS.charAt(draw(SIGNS.length())));
                }
            }
        }
        if (wrongAt < 0) {
            wrongAt = rest.matchesEmpty() ? ParserParlour.NONE : length;
        }
        dueIs(signs.toString(), false, wrongAt);
    }

    private static void dueIs(String signs, boolean answer, int wrongAt) {
        ParserParlour parlour = new ParserParlour();
        if (answer) {
            parlour.thing(0, 1, false);
            parlour.thing(0, 2, false);
            parlour.word(ParserParlour.TAKE);
            parlour.word(ParserParlour.NOUN);
            parlour.say();
        }
        for (char sign : signs.toCharArray()) {
            parlour.word(wordFor(sign));
        }
        boolean wrong = parlour.say() == ParserParlour.WRONG;
        Check.due(signs + " is wrong", wrongAt == ParserParlour.NONE ? 0 : 1, wrong ? 1 : 0);
        if (wrong) {
            Check.due("wrongAt of " + signs, wrongAt, parlour.wrongAt());
        }
        tried++;
    }

    private static int wordFor(char sign) {
        switch (sign) {
            case 'v':
                return new int[] {ParserParlour.TAKE, ParserParlour.DROP, ParserParlour.OPEN, ParserParlour.SHUT}[draw(4)];
            case 'p':
                return ParserParlour.PUT;
            case 'a':
                return ParserParlour.ADJECTIVE + draw(6);
            case 'n':
                return ParserParlour.NOUN + draw(8);
            case 's':
                return ParserParlour.PLURAL + draw(8);
            default:
                return ParserParlour.THE + SIGNS.indexOf(sign) - SIGNS.indexOf('T');
        }
    }

    private static int draw(int bound) {
        lot = lot * 1103515245 + 12345;
        return (lot >>> 8) % bound;
    }
}
