/** An expression over signs, read by derivatives: what may follow a sign is again an expression. */
final class Expression {
    /** What matches nothing, not even the empty text. */
    static final Expression NEVER = new Expression('0', null, null);
    /** What matches the empty text alone. */
    static final Expression EMPTY = new Expression('1', null, null);

    private final char kind;
    private final Expression left;
    private final Expression right;

    private Expression(char kind, Expression left, Expression right) {
        this.kind = kind;
        this.left = left;
        this.right = right;
    }

    static Expression sign(char sign) {
        return new Expression(sign, null, null);
    }

    static Expression either(Expression... choices) {
        Expression all = NEVER;
        for (Expression choice : choices) {
            if (choice != NEVER && choice != all) {
                all = all == NEVER ? choice : new Expression('|', all, choice);
            }
        }
        return all;
    }

    static Expression row(Expression... parts) {
        Expression all = EMPTY;
        for (int k = parts.length - 1; k >= 0; k--) {
            if (parts[k] == NEVER || all == NEVER) {
                all = NEVER;
            } else if (all == EMPTY) {
                all = parts[k];
            } else if (parts[k] != EMPTY) {
                all = new Expression('.', parts[k], all);
            }
        }
        return all;
    }

    static Expression maybe(Expression part) {
        return either(EMPTY, part);
    }

    static Expression many(Expression part) {
        return new Expression('*', part, null);
    }

    boolean matchesEmpty() {
        switch (kind) {
            case '1':
            case '*':
                return true;
            case '|':
                return left.matchesEmpty() || right.matchesEmpty();
            case '.':
                return left.matchesEmpty() && right.matchesEmpty();
            default:
                return false;
        }
    }

    /** What may stand behind the sign; NEVER if nothing begins with it. */
    Expression behind(char sign) {
        switch (kind) {
            case '0':
            case '1':
                return NEVER;
            case '|':
                return either(left.behind(sign), right.behind(sign));
            case '.':
                Expression behindLeft = row(left.behind(sign), right);
                return left.matchesEmpty() ? either(behindLeft, right.behind(sign)) : behindLeft;
            case '*':
                return row(left.behind(sign), this);
            default:
                return kind == sign ? EMPTY : NEVER;
        }
    }
}
