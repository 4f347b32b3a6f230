import java.util.ArrayDeque;

/** The document's patterns read sign by sign, each sign being taken or refused: the fault of a draft once more. */
final class Grammar {
    private enum At { ITEM, COUNTABLE, COUNTED, ESCAPE, CLASS, OTHERS, MEMBER, BOUND, FULL, OPENED, SPECIAL, FLAG,
        BEHIND, CALL, CONDITION, CONDITION_END, CUT, CUT_END, BRACE, LEAST, COMMA, MOST }

    /** An open parenthesis; what: 'g' any that can be counted, 'l' a look, 'r' a reset, 'c' a condition. */
    private static final class Open {
        final char what;
        final int former;
        int most;
        int bars;

        Open(char what, int number) {
            this.what = what;
            this.former = number;
            this.most = number;
        }
    }

    private final ArrayDeque<Open> opened = new ArrayDeque<>();
    private At at = At.ITEM;
    private int number;
    private int needed;
    private char low;
    private int least;

    static int fault(String draft) {
        Grammar grammar = new Grammar();
        for (int k = 0; k < draft.length(); k++) {
            if (!grammar.takes(draft.charAt(k))) {
                return k;
            }
        }
        boolean isWhole = grammar.opened.isEmpty()
                && (grammar.at == At.ITEM || grammar.at == At.COUNTABLE || grammar.at == At.COUNTED);
        if (!isWhole) {
            return draft.length();
        }
        return grammar.needed > grammar.number ? draft.length() + 1 : -1;
    }

    private static boolean isText(char c) {
        return c >= 'a' && c <= 'z' || c >= 'A' && c <= 'Z' || c >= '0' && c <= '9' || c == '_' || c == ' ';
    }

    private boolean to(At next) {
        at = next;
        return true;
    }

    private boolean takes(char c) {
        switch (at) {
            case ITEM:
                return item(c);
            case COUNTABLE:
                if (c == '*' || c == '+' || c == '?') {
                    return to(At.COUNTED);
                }
                return c == '{' ? to(At.BRACE) : item(c);
            case COUNTED:
                return c == '?' || c == '+' ? to(At.ITEM) : item(c);
            case ESCAPE:
                if (c >= '1' && c <= '6') {
                    return refer(c) && to(At.COUNTABLE);
                }
                if (c == 'b' || c == 'B') {
                    return to(At.ITEM);
                }
                return (c == 'w' || c == 'd' || ".*+?()[]|^$\\".indexOf(c) >= 0) && to(At.COUNTABLE);
            case CLASS:
                return c == '^' ? to(At.OTHERS) : member(c);
            case OTHERS:
                return member(c);
            case MEMBER:
                if (c == '-') {
                    return Character.isLetterOrDigit(low) && to(At.BOUND);
                }
                return c == ']' ? to(At.COUNTABLE) : member(c);
            case BOUND:
                return isText(c) && Character.getType(c) == Character.getType(low) && c >= low && c != '_'
                        && to(At.FULL);
            case FULL:
                return c == ']' ? to(At.COUNTABLE) : member(c);
            default:
                return takesInParts(c);
        }
    }

    private boolean takesInParts(char c) {
        switch (at) {
            case OPENED:
                return opening(c);
            case SPECIAL:
                return special(c);
            case FLAG:
                return c == ':' && open('g');
            case BEHIND:
                return (c == '=' || c == '!') && open('l');
            case CALL:
                return c == ')' && to(At.COUNTABLE);
            case CONDITION:
                return c >= '1' && c <= '6' && refer(c) && to(At.CONDITION_END);
            case CONDITION_END:
                return c == ')' && open('c');
            case CUT:
                return "CPST".indexOf(c) >= 0 && to(At.CUT_END);
            case CUT_END:
                return c == ')' && to(At.ITEM);
            case BRACE:
                least = c - '0';
                return c >= '0' && c <= '9' && to(At.LEAST);
            case LEAST:
                return c == ',' ? to(At.COMMA) : c == '}' && least > 0 && to(At.COUNTED);
            case COMMA:
                if (c == '}') {
                    return to(At.COUNTED);
                }
                return c >= '1' && c <= '9' && c - '0' >= least && to(At.MOST);
            default:
                return c == '}' && to(At.COUNTED);
        }
    }

    private boolean refer(char c) {
        needed = Math.max(needed, c - '0');
        return true;
    }

    private boolean member(char c) {
        low = c;
        return isText(c) && to(At.MEMBER);
    }

    private boolean open(char what) {
        opened.push(new Open(what, number));
        return to(At.ITEM);
    }

    private boolean opening(char c) {
        if (c == '?') {
            return to(At.SPECIAL);
        }
        if (c == '*') {
            return to(At.CUT);
        }
        if (number == 6) {
            return false;
        }
        number++;
        open('g');
        return item(c);
    }

    private boolean special(char c) {
        switch (c) {
            case ':': case '>':
                return open('g');
            case '=': case '!':
                return open('l');
            case '|':
                return open('r');
            case 'i':
                return to(At.FLAG);
            case '<':
                return to(At.BEHIND);
            case '(':
                return to(At.CONDITION);
            case 'R':
                return to(At.CALL);
            default:
                return c >= '1' && c <= '6' && refer(c) && to(At.CALL);
        }
    }

    private boolean item(char c) {
        if (isText(c) || c == '.') {
            return to(At.COUNTABLE);
        }
        switch (c) {
            case '^': case '$':
                return to(At.ITEM);
            case '\\':
                return to(At.ESCAPE);
            case '[':
                return to(At.CLASS);
            case '(':
                return to(At.OPENED);
            case '|':
                return bar();
            case ')':
                return close();
            default:
                return false;
        }
    }

    private boolean bar() {
        Open around = opened.peek();
        if (around != null) {
            around.bars++;
            if (around.what == 'c' && around.bars == 2) {
                return false;
            }
            around.most = Math.max(around.most, number);
            if (around.what == 'r') {
                number = around.former;
            }
        }
        return to(At.ITEM);
    }

    private boolean close() {
        if (opened.isEmpty()) {
            return false;
        }
        Open around = opened.pop();
        number = Math.max(number, around.most);
        return to(around.what == 'l' ? At.ITEM : At.COUNTABLE);
    }
}
