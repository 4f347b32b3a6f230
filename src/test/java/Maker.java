import java.util.ArrayList;
import java.util.List;

/** Makes patterns by chance that is always the same, as signs and as the model's trees at once. */
final class Maker {
    static final String ALL = all();

    private long state;
    private int number;
    private int needed;
    private boolean isPlain;
    private boolean likesGroups;
    private StringBuilder out;
    List<List<Model.Piece>> pattern;
    String signs;
    int groups;

    Maker(long seed) {
        state = seed * 6364136223846793005L + 1442695040888963407L;
        for (int k = 0; k < 8; k++) {
            next(2);
        }
    }

    private static String all() {
        StringBuilder all = new StringBuilder();
        for (char c = '0'; c <= 'z'; c++) {
            if (Character.isLetterOrDigit(c) || c == '_') {
                all.append(c);
            }
        }
        return all.append(' ').toString();
    }

    int next(int bound) {
        state = state * 6364136223846793005L + 1442695040888963407L;
        return (int) ((state >>> 33) % bound);
    }

    /** Tries until there is a pattern of 32 signs at most that tells all groups it refers to. */
    void make(boolean onlyPlain) {
        isPlain = onlyPlain;
        // Otherwise a sixth group would hardly ever come.
        likesGroups = next(6) == 0;
        while (true) {
            out = new StringBuilder();
            number = 0;
            needed = 0;
            pattern = body(0, false, 0);
            if (out.length() <= 32 && number <= 6 && needed <= number) {
                signs = out.toString();
                groups = number;
                return;
            }
        }
    }

    String text(int most) {
        String from = next(3) == 0 ? "ab" : next(2) == 0 ? "aabbcA" : "aabbcABC1 _";
        int size = next(most + 1);
        StringBuilder all = new StringBuilder();
        for (int k = 0; k < size; k++) {
            all.append(from.charAt(next(from.length())));
        }
        return all.toString();
    }

    /** In what: 1 a reset, 2 a condition. */
    private List<List<Model.Piece>> body(int depth, boolean alike, int inWhat) {
        List<List<Model.Piece>> branches = new ArrayList<>();
        int count = next(3) == 0 ? 1 + next(3) : 1;
        if (inWhat == 1) {
            count = 2 + next(2);
        }
        if (inWhat == 2) {
            count = 1 + next(2);
        }
        int former = number;
        int most = number;
        for (int k = 0; k < count; k++) {
            if (k > 0) {
                out.append('|');
            }
            if (inWhat == 1) {
                most = Math.max(most, number);
                number = former;
            }
            List<Model.Piece> row = new ArrayList<>();
            int size = depth == 0 ? 1 + next(5) : next(8) == 0 ? 0 : 1 + next(3);
            for (int j = 0; j < size; j++) {
                Model.Piece piece = atom(depth, alike);
                count(piece);
                row.add(piece);
            }
            branches.add(row);
        }
        number = Math.max(most, number);
        return branches;
    }

    private Model.Piece atom(int depth, boolean alike) {
        int roll = next(isPlain ? 16 : 26);
        if (likesGroups && number < 6 && next(2) == 0) {
            roll = 9;
        }
        if (roll < 8 || depth > 4 || out.length() > 30) {
            return sign(alike);
        }
        Model.Piece piece = new Model.Piece();
        if (roll < 9) {
            return edge(piece);
        }
        if (roll < 12) {
            number++;
            piece.number = number;
            return filled(piece, Model.Kind.GROUP, "(", depth, alike, 0);
        }
        if (roll < 16) {
            int form = next(4);
            piece.number = 0;
            return form == 0 ? filled(piece, Model.Kind.NO_GROUP, "(?i:", depth, true, 0)
                    : form == 1 ? filled(piece, Model.Kind.NO_GROUP, "(?|", depth, alike, 1)
                    : filled(piece, Model.Kind.NO_GROUP, "(?:", depth, alike, 0);
        }
        return hard(piece, roll, depth, alike);
    }

    private Model.Piece hard(Model.Piece piece, int roll, int depth, boolean alike) {
        switch (roll) {
            case 16:
                return filled(piece, Model.Kind.AHEAD, "(?=", depth, alike, 0);
            case 17:
                return filled(piece, Model.Kind.NOT_AHEAD, "(?!", depth, alike, 0);
            case 18:
                return filled(piece, Model.Kind.BEHIND, "(?<=", depth, alike, 0);
            case 19:
                return filled(piece, Model.Kind.NOT_BEHIND, "(?<!", depth, alike, 0);
            case 20:
                return filled(piece, Model.Kind.ATOMIC, "(?>", depth, alike, 0);
            case 21:
                piece.kind = Model.Kind.REFERENCE;
                piece.alike = alike;
                piece.number = refer();
                out.append('\\').append(piece.number);
                return piece;
            case 22:
                piece.kind = Model.Kind.CALL;
                piece.number = next(3) == 0 ? 0 : refer();
                out.append("(?").append(piece.number == 0 ? "R" : "" + piece.number).append(')');
                return piece;
            case 23:
                piece.number = refer();
                return filled(piece, Model.Kind.CONDITION, "(?(" + piece.number + ")", depth, alike, 2);
            default:
                piece.kind = Model.Kind.CUT;
                piece.cut = "CPST".charAt(next(4));
                out.append("(*").append(piece.cut).append(')');
                return piece;
        }
    }

    private int refer() {
        int group = 1 + next(likesGroups ? 6 : 3);
        needed = Math.max(needed, group);
        return group;
    }

    private Model.Piece filled(Model.Piece piece, Model.Kind kind, String opening, int depth, boolean alike,
            int inWhat) {
        piece.kind = kind;
        out.append(opening);
        piece.branches = body(depth + 1, alike, inWhat);
        out.append(')');
        return piece;
    }

    private Model.Piece edge(Model.Piece piece) {
        switch (next(4)) {
            case 0:
                piece.kind = Model.Kind.START;
                out.append('^');
                break;
            case 1:
                piece.kind = Model.Kind.END;
                out.append('$');
                break;
            case 2:
                piece.kind = Model.Kind.EDGE;
                out.append("\\b");
                break;
            default:
                piece.kind = Model.Kind.NO_EDGE;
                out.append("\\B");
                break;
        }
        return piece;
    }

    private Model.Piece sign(boolean alike) {
        Model.Piece piece = new Model.Piece();
        piece.kind = Model.Kind.SIGN;
        int form = next(20);
        if (form < 13) {
            String one = "" + "aaabbcAB".charAt(next(8));
            out.append(one);
            piece.signs = alike ? bothSizes(one) : one;
        } else if (form == 13) {
            out.append('.');
            piece.signs = ALL;
        } else if (form == 14) {
            out.append("\\w");
            piece.signs = ALL.replace(" ", "");
        } else if (form == 15) {
            out.append("\\d");
            piece.signs = "0123456789";
        } else if (form == 16 && next(4) == 0) {
            out.append('\\').append(".*+?()[]|^$\\".charAt(next(12)));
        } else {
            makeClass(piece, alike);
        }
        return piece;
    }

    private void makeClass(Model.Piece piece, boolean alike) {
        boolean isOther = next(2) == 0;
        out.append(isOther ? "[^" : "[");
        StringBuilder members = new StringBuilder();
        int size = 1 + next(3);
        for (int k = 0; k < size; k++) {
            if (next(3) == 0) {
                String range = new String[] {"a-c", "b-z", "A-B", "0-4", "b-b"}[next(5)];
                out.append(range);
                for (char c = range.charAt(0); c <= range.charAt(2); c++) {
                    members.append(c);
                }
            } else {
                char c = "abcAB1_ ".charAt(next(8));
                out.append(c);
                members.append(c);
            }
        }
        out.append(']');
        String inside = alike ? bothSizes(members.toString()) : members.toString();
        if (!isOther) {
            piece.signs = inside;
            return;
        }
        StringBuilder others = new StringBuilder();
        for (int k = 0; k < ALL.length(); k++) {
            if (inside.indexOf(ALL.charAt(k)) < 0) {
                others.append(ALL.charAt(k));
            }
        }
        piece.signs = others.toString();
    }

    private static String bothSizes(String signs) {
        return signs + signs.toUpperCase() + signs.toLowerCase();
    }

    private void count(Model.Piece piece) {
        switch (piece.kind) {
            case START: case END: case EDGE: case NO_EDGE: case AHEAD: case NOT_AHEAD: case BEHIND: case NOT_BEHIND:
            case CUT:
                return;
            default:
                break;
        }
        int form = next(12);
        if (form > 6) {
            return;
        }
        piece.manner = '?';
        int n = next(4);
        int m = n + next(3);
        switch (form) {
            case 0: case 1:
                out.append('*');
                set(piece, 0, Model.ENDLESS);
                break;
            case 2:
                out.append('+');
                set(piece, 1, Model.ENDLESS);
                break;
            case 3: case 4:
                out.append('?');
                set(piece, 0, 1);
                break;
            case 5:
                out.append('{').append(n).append(",}");
                set(piece, n, Model.ENDLESS);
                break;
            default:
                if (m == 0) {
                    m = 1;
                }
                if (n == m) {
                    out.append('{').append(n).append('}');
                } else {
                    out.append('{').append(n).append(',').append(m).append('}');
                }
                set(piece, n, m);
                break;
        }
        int manner = next(isPlain ? 5 : 7);
        if (manner < 2) {
            out.append('?');
            piece.manner = 'L';
        } else if (manner > 4) {
            out.append('+');
            piece.manner = 'P';
        }
    }

    private static void set(Model.Piece piece, int least, int most) {
        piece.least = least;
        piece.most = most;
    }
}
