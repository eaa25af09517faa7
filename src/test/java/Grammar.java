import java.util.List;

/** The grammar of orders and answers, written a second time as expressions over signs. */
final class Grammar {
    /** A sign for each kind of word: verbs, PUT, THE, ALL, BUT, AND, IT, THEM, IN, ONE, adjective, noun, plural. */
    static final String SIGNS = "vpTABCIMNOans";
    static final Expression ORDER = order();
    static final Expression ANSWER = answer();

    private Grammar() {
    }

    /** The place at which words are no order, or no answer if they begin with no verb; or NONE. */
    static int wrongAt(List<Integer> words) {
        boolean order = !words.isEmpty() && words.get(0) <= ParserParlour.SHUT;
        Expression rest = order ? ORDER : ANSWER;
        for (int place = 0; place < words.size(); place++) {
            rest = rest.behind(signOf(words.get(place)));
            if (rest == Expression.NEVER) {
                return place;
            }
        }
        return rest.matchesEmpty() ? ParserParlour.NONE : words.size();
    }

    private static char signOf(int word) {
        if (word < ParserParlour.THE) {
            return word == ParserParlour.PUT ? 'p' : 'v';
        }
        if (word < ParserParlour.ADJECTIVE) {
            return SIGNS.charAt(SIGNS.indexOf('T') + word - ParserParlour.THE);
        }
        return word < ParserParlour.NOUN ? 'a' : word < ParserParlour.PLURAL ? 'n' : 's';
    }

    private static Expression one(char sign) {
        return Expression.sign(sign);
    }

    private static Expression single() {
        Expression the = Expression.maybe(one('T'));
        Expression adjectives = Expression.many(one('a'));
        return Expression.either(
                Expression.row(the, adjectives, one('n')),
                Expression.row(the, one('a'), adjectives, one('O')),
                one('I'));
    }

    private static Expression part() {
        Expression adjectives = Expression.many(one('a'));
        Expression all = Expression.either(
                one('A'),
                Expression.row(one('A'), adjectives, one('s')),
                Expression.row(Expression.maybe(one('T')), adjectives, one('s')));
        Expression but = Expression.row(one('B'), single(), Expression.many(Expression.row(one('C'), single())));
        return Expression.either(Expression.row(all, Expression.maybe(but)), one('M'), single());
    }

    private static Expression order() {
        Expression group = Expression.row(part(), Expression.many(Expression.row(one('C'), part())));
        return Expression.either(
                Expression.row(one('p'), group, one('N'), single()),
                Expression.row(one('v'), group));
    }

    /** At least one word other than THE: an adjective, a noun or ONE. */
    private static Expression answer() {
        Expression the = Expression.maybe(one('T'));
        Expression adjectives = Expression.many(one('a'));
        Expression head = Expression.either(one('n'), one('O'));
        return Expression.either(
                Expression.row(the, adjectives, head),
                Expression.row(the, one('a'), adjectives, Expression.maybe(head)));
    }
}
