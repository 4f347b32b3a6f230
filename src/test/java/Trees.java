import java.util.ArrayList;
import java.util.List;

/** What the document says of a pattern's form, over the model's trees; and languages by what is left of them. */
final class Trees {
    private Trees() {
    }

    static boolean isPlain(List<List<Model.Piece>> branches) {
        return isSoft(branches) && weight(branches) <= 24;
    }

    private static boolean isSoft(List<List<Model.Piece>> branches) {
        for (List<Model.Piece> row : branches) {
            for (Model.Piece piece : row) {
                if (piece.kind.compareTo(Model.Kind.AHEAD) >= 0 || piece.manner == 'P') {
                    return false;
                }
                boolean isAbove = piece.most == Model.ENDLESS ? piece.least > 1 : piece.most > 1;
                if (isAbove && isLoose(piece) || piece.branches != null && !isSoft(piece.branches)) {
                    return false;
                }
            }
        }
        return true;
    }

    private static boolean isLoose(Model.Piece piece) {
        if (piece.branches == null) {
            return piece.kind != Model.Kind.SIGN;
        }
        for (List<Model.Piece> row : piece.branches) {
            boolean isEmpty = true;
            for (Model.Piece inner : row) {
                isEmpty &= inner.least == 0 || isLoose(inner);
            }
            if (isEmpty) {
                return true;
            }
        }
        return false;
    }

    private static int weight(List<List<Model.Piece>> branches) {
        int weight = 0;
        for (List<Model.Piece> row : branches) {
            for (Model.Piece piece : row) {
                int own = piece.kind == Model.Kind.SIGN ? 1 : piece.branches == null ? 0 : weight(piece.branches);
                weight += own * (piece.most == Model.ENDLESS ? Math.max(1, piece.least) : piece.most);
            }
        }
        return weight;
    }

    static boolean hasEdge(List<List<Model.Piece>> branches) {
        for (List<Model.Piece> row : branches) {
            for (Model.Piece piece : row) {
                boolean isEdge = piece.branches == null && piece.kind != Model.Kind.SIGN;
                if (isEdge || piece.branches != null && hasEdge(piece.branches)) {
                    return true;
                }
            }
        }
        return false;
    }

    static String replaced(String text, List<int[]> matches, String template) {
        StringBuilder out = new StringBuilder();
        int copied = 0;
        for (int[] one : matches) {
            if (one[0] < 0) {
                break;
            }
            out.append(text, copied, one[0]);
            for (int k = 0; k < template.length(); k++) {
                char c = template.charAt(k);
                if ("$^-".indexOf(c) < 0 || k + 1 == template.length()
                        || !Character.isDigit(template.charAt(k + 1))) {
                    out.append(c);
                    continue;
                }
                k++;
                int g = template.charAt(k) - '0';
                String span = g > 6 || one[2 * g] < 0 ? "" : text.substring(one[2 * g], one[2 * g + 1]);
                out.append(c == '$' ? span : c == '^' ? span.toUpperCase() : span.toLowerCase());
            }
            copied = one[1];
        }
        return out.append(text.substring(copied)).toString();
    }

    /** A set of texts; what is left of it behind a sign is one, too. */
    interface Language {
        boolean isEmptyIn();

        boolean hasAny();

        Language behind(char sign);
    }

    private static final Language NOTHING = new Language() {
        public boolean isEmptyIn() {
            return false;
        }

        public boolean hasAny() {
            return false;
        }

        public Language behind(char sign) {
            return this;
        }
    };

    private static final Language EMPTY = new Language() {
        public boolean isEmptyIn() {
            return true;
        }

        public boolean hasAny() {
            return true;
        }

        public Language behind(char sign) {
            return NOTHING;
        }
    };

    private static Language one(String signs) {
        return new Language() {
            public boolean isEmptyIn() {
                return false;
            }

            public boolean hasAny() {
                return !signs.isEmpty();
            }

            public Language behind(char sign) {
                return signs.indexOf(sign) >= 0 ? EMPTY : NOTHING;
            }
        };
    }

    private static Language both(Language a, Language b) {
        if (a == NOTHING || b == NOTHING) {
            return NOTHING;
        }
        if (a == EMPTY) {
            return b;
        }
        if (b == EMPTY) {
            return a;
        }
        return new Language() {
            public boolean isEmptyIn() {
                return a.isEmptyIn() && b.isEmptyIn();
            }

            public boolean hasAny() {
                return a.hasAny() && b.hasAny();
            }

            public Language behind(char sign) {
                Language first = both(a.behind(sign), b);
                return a.isEmptyIn() ? either(first, b.behind(sign)) : first;
            }
        };
    }

    private static Language either(Language a, Language b) {
        if (a == NOTHING || a == b) {
            return b;
        }
        if (b == NOTHING) {
            return a;
        }
        return new Language() {
            public boolean isEmptyIn() {
                return a.isEmptyIn() || b.isEmptyIn();
            }

            public boolean hasAny() {
                return a.hasAny() || b.hasAny();
            }

            public Language behind(char sign) {
                return either(a.behind(sign), b.behind(sign));
            }
        };
    }

    private static Language many(Language a) {
        return new Language() {
            public boolean isEmptyIn() {
                return true;
            }

            public boolean hasAny() {
                return true;
            }

            public Language behind(char sign) {
                return both(a.behind(sign), this);
            }
        };
    }

    static Language language(List<List<Model.Piece>> branches) {
        Language all = NOTHING;
        for (List<Model.Piece> row : branches) {
            Language whole = EMPTY;
            List<Language> parts = new ArrayList<>();
            for (Model.Piece piece : row) {
                parts.add(counted(piece));
            }
            for (Language part : parts) {
                whole = both(whole, part);
            }
            all = either(all, whole);
        }
        return all;
    }

    private static Language counted(Model.Piece piece) {
        Language own = piece.kind == Model.Kind.SIGN ? one(piece.signs) : language(piece.branches);
        Language all = piece.most == Model.ENDLESS ? many(own) : EMPTY;
        if (piece.most != Model.ENDLESS) {
            for (int k = piece.least; k < piece.most; k++) {
                all = either(EMPTY, both(own, all));
            }
        }
        for (int k = 0; k < piece.least; k++) {
            all = both(own, all);
        }
        return all;
    }
}
