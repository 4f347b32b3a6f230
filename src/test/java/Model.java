import java.util.ArrayList;
import java.util.List;

/**
 * The document's matching by backing up, written a second time and in another way: each thing in a
 * pattern is tried with what is behind it as a function. Slow, and as deep as it likes.
 */
final class Model {
    static final int ENDLESS = 99;

    enum Kind { SIGN, START, END, EDGE, NO_EDGE, GROUP, NO_GROUP, AHEAD, NOT_AHEAD, BEHIND, NOT_BEHIND, ATOMIC,
        REFERENCE, CALL, CONDITION, CUT }

    /** An atom with its count; manner 0 for none, else ? for greedy, L for lazy, P for possessive. */
    static final class Piece {
        Kind kind;
        String signs = "";      // of a SIGN: all that it matches
        int number;
        char cut;
        boolean alike;          // of a reference
        List<List<Piece>> branches;
        char manner;
        int least = 1;
        int most = 1;
    }

    static final class GivenUp extends RuntimeException {
        private static final long serialVersionUID = 1L;
    }

    /** What comes of trying: a match, a failure, or a cut on its way out to its target. */
    static final class Answer {
        final boolean isMatch;
        final char cut;
        final int place;
        final int[] groups;
        final Object target;

        Answer(boolean isMatch, char cut, int place, int[] groups, Object target) {
            this.isMatch = isMatch;
            this.cut = cut;
            this.place = place;
            this.groups = groups;
            this.target = target;
        }
    }

    static final Answer FAILED = new Answer(false, ' ', 0, null, null);

    interface Behind {
        Answer go(int place, int[] groups);
    }

    /** Where something stands: in how many calls, in what holds cuts, and in which branch. */
    static final class Around {
        final int calls;
        final Object holder;
        final Object branch;

        Around(int calls, Object holder, Object branch) {
            this.calls = calls;
            this.holder = holder;
            this.branch = branch;
        }

        Around in(Object newHolder) {
            return new Around(calls, newHolder, null);
        }
    }

    final List<List<Piece>> pattern;
    final String text;
    int budget = 250;
    int trials;

    Model(List<List<Piece>> pattern, String text) {
        this.pattern = pattern;
        this.text = text;
    }

    Answer tryAt(int place) {
        Answer a = body(pattern, place, new int[14], new Around(0, null, null),
                (p, g) -> new Answer(true, ' ', p, g, null));
        return a;
    }

    /** {begin, end, groups..}; {-1} none, {-2} given up. */
    int[] find(int from) {
        try {
            int at = from;
            while (at <= text.length()) {
                Answer a = tryAt(at);
                if (a.isMatch) {
                    return found(at, a);
                }
                if (a.cut == 'C') {
                    return new int[] {-1};
                }
                at = a.cut == 'S' && a.place > at ? a.place : at + 1;
            }
            return new int[] {-1};
        } catch (GivenUp e) {
            return new int[] {-2};
        }
    }

    int[] match(int from) {
        try {
            Answer a = tryAt(from);
            return a.isMatch ? found(from, a) : new int[] {-1};
        } catch (GivenUp e) {
            return new int[] {-2};
        }
    }

    /** All matches of searching on; the last one is {-2} if it is given up. */
    List<int[]> findAll() {
        List<int[]> all = new ArrayList<>();
        int from = 0;
        while (from <= text.length()) {
            int[] one = find(from);
            if (one[0] == -1) {
                break;
            }
            all.add(one);
            if (one[0] == -2) {
                break;
            }
            from = one[1] > one[0] ? one[1] : one[1] + 1;
        }
        return all;
    }

    /** The ways from one place to another, up to 99; -1 if there is too much to try. */
    int ways(int from, int to) {
        int[] count = {0};
        budget = 200000;
        trials = 0;
        try {
            body(pattern, from, new int[14], new Around(0, null, null), (p, g) -> {
                if (p == to) {
                    count[0]++;
                }
                if (count[0] >= 99) {
                    throw new GivenUp();
                }
                return FAILED;
            });
        } catch (GivenUp e) {
            return count[0] >= 99 ? 99 : -1;
        }
        return count[0];
    }

    private static int[] found(int begin, Answer a) {
        int[] all = new int[14];
        all[0] = begin;
        all[1] = a.place;
        for (int g = 1; g <= 6; g++) {
            all[2 * g] = a.groups[2 * g] - 1;
            all[2 * g + 1] = a.groups[2 * g + 1] - 1;
        }
        return all;
    }

    private void trial() {
        if (trials >= budget) {
            throw new GivenUp();
        }
        trials++;
    }

    private Answer body(List<List<Piece>> branches, int place, int[] groups, Around around, Behind behind) {
        if (branches.size() == 1) {
            return row(branches.get(0), 0, place, groups, around, behind);
        }
        for (List<Piece> one : branches) {
            trial();
            Object tag = new Object();
            Answer a = row(one, 0, place, groups, new Around(around.calls, around.holder, tag), behind);
            if (a != FAILED && a.target != tag) {
                return a;
            }
            if (a.isMatch) {
                return a;
            }
        }
        return FAILED;
    }

    private Answer row(List<Piece> row, int k, int place, int[] groups, Around around, Behind behind) {
        if (k == row.size()) {
            return behind.go(place, groups);
        }
        Piece piece = row.get(k);
        Behind rest = (p, g) -> row(row, k + 1, p, g, around, behind);
        if (piece.manner == 0) {
            return atom(piece, place, groups, around, rest);
        }
        if (piece.manner != 'P') {
            return turns(piece, 0, place, groups, around, rest);
        }
        Object holder = new Object();
        Answer a = turns(piece, 0, place, groups, around.in(holder), (p, g) -> new Answer(true, ' ', p, g, null));
        return a.isMatch ? rest.go(a.place, a.groups) : FAILED;
    }

    private Answer turns(Piece piece, int done, int place, int[] groups, Around around, Behind rest) {
        if (done < piece.least) {
            return turn(piece, done, place, groups, around, rest);
        }
        if (piece.most != ENDLESS && done == piece.most) {
            return rest.go(place, groups);
        }
        boolean isLazy = piece.manner == 'L';
        Answer a = isLazy ? rest.go(place, groups) : turn(piece, done, place, groups, around, rest);
        if (a != FAILED) {
            return a;
        }
        return isLazy ? turn(piece, done, place, groups, around, rest) : rest.go(place, groups);
    }

    private Answer turn(Piece piece, int done, int place, int[] groups, Around around, Behind rest) {
        trial();
        return atom(piece, place, groups, around, (p, g) -> {
            if (p != place) {
                return turns(piece, done + 1, p, g, around, rest);
            }
            return done < piece.least ? rest.go(p, g) : FAILED;
        });
    }

    private boolean isWord(int k) {
        return k >= 0 && k < text.length() && text.charAt(k) != ' ';
    }

    private Answer atom(Piece piece, int place, int[] groups, Around around, Behind behind) {
        trial();
        switch (piece.kind) {
            case SIGN:
                return place < text.length() && piece.signs.indexOf(text.charAt(place)) >= 0
                        ? behind.go(place + 1, groups) : FAILED;
            case START:
                return place == 0 ? behind.go(place, groups) : FAILED;
            case END:
                return place == text.length() ? behind.go(place, groups) : FAILED;
            case EDGE:
                return isWord(place - 1) != isWord(place) ? behind.go(place, groups) : FAILED;
            case NO_EDGE:
                return isWord(place - 1) == isWord(place) ? behind.go(place, groups) : FAILED;
            case GROUP:
                return body(piece.branches, place, groups, around, (p, g) -> {
                    int[] set = g.clone();
                    set[2 * piece.number] = place + 1;
                    set[2 * piece.number + 1] = p + 1;
                    return behind.go(p, set);
                });
            case NO_GROUP:
                return body(piece.branches, place, groups, around, behind);
            case ATOMIC: {
                Answer a = alone(piece, place, groups, around);
                return a.isMatch ? behind.go(a.place, a.groups) : FAILED;
            }
            case AHEAD: {
                Answer a = alone(piece, place, groups, around);
                return a.isMatch ? behind.go(place, a.groups) : FAILED;
            }
            case NOT_AHEAD:
                return alone(piece, place, groups, around).isMatch ? FAILED : behind.go(place, groups);
            case BEHIND: {
                Answer a = back(piece, place, groups, around);
                return a.isMatch ? behind.go(place, a.groups) : FAILED;
            }
            case NOT_BEHIND:
                return back(piece, place, groups, around).isMatch ? FAILED : behind.go(place, groups);
            case REFERENCE:
                return reference(piece, place, groups, behind);
            case CALL:
                return call(piece, place, groups, around, behind);
            case CONDITION: {
                int which = groups[2 * piece.number] > 0 ? 0 : 1;
                return which < piece.branches.size()
                        ? row(piece.branches.get(which), 0, place, groups, around, behind)
                        : behind.go(place, groups);
            }
            default:
                return cut(piece, place, groups, around, behind);
        }
    }

    private Answer alone(Piece piece, int place, int[] groups, Around around) {
        return body(piece.branches, place, groups, around.in(new Object()),
                (p, g) -> new Answer(true, ' ', p, g, null));
    }

    private Answer back(Piece piece, int place, int[] groups, Around around) {
        Around inner = around.in(new Object());
        for (int from = place; from >= 0; from--) {
            trial();
            Answer a = body(piece.branches, from, groups, inner,
                    (p, g) -> p == place ? new Answer(true, ' ', p, g, null) : FAILED);
            if (a != FAILED) {
                return a;
            }
        }
        return FAILED;
    }

    private Answer reference(Piece piece, int place, int[] groups, Behind behind) {
        int begin = groups[2 * piece.number] - 1;
        int end = groups[2 * piece.number + 1] - 1;
        if (begin < 0) {
            return FAILED;
        }
        int size = end - begin;
        return text.regionMatches(piece.alike, place, text, begin, size) ? behind.go(place + size, groups) : FAILED;
    }

    private Answer call(Piece piece, int place, int[] groups, Around around, Behind behind) {
        if (around.calls >= 5) {
            return FAILED;
        }
        Object holder = new Object();
        List<List<Piece>> what = piece.number == 0 ? pattern : firstGroup(pattern, piece.number).branches;
        Answer a = body(what, place, groups, new Around(around.calls + 1, holder, null),
                (p, g) -> behind.go(p, groups));
        return a != FAILED && !a.isMatch && a.target == holder ? FAILED : a;
    }

    static Piece firstGroup(List<List<Piece>> branches, int number) {
        for (List<Piece> row : branches) {
            for (Piece piece : row) {
                if (piece.kind == Kind.GROUP && piece.number == number) {
                    return piece;
                }
                if (piece.branches != null) {
                    Piece inner = firstGroup(piece.branches, number);
                    if (inner != null) {
                        return inner;
                    }
                }
            }
        }
        return null;
    }

    private Answer cut(Piece piece, int place, int[] groups, Around around, Behind behind) {
        Answer a = behind.go(place, groups);
        if (a != FAILED) {
            return a;
        }
        boolean toBranch = piece.cut == 'T' && around.branch != null;
        char kind = piece.cut == 'T' ? 'P' : piece.cut;
        return new Answer(false, kind, place, null, toBranch ? around.branch : around.holder);
    }
}
