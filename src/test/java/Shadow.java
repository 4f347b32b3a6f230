import java.util.ArrayList;
import java.util.HashMap;
import java.util.List;
import java.util.Map;

/** The whole face once more, by the model; it answers with words, an exception by its name. */
final class Shadow {
    static final String BOUNDS = "IndexOutOfBoundsException";
    static final String ARGUMENT = "IllegalArgumentException";
    static final String STATE = "IllegalStateException";

    private final Map<String, Maker> known = new HashMap<>();
    private final Maker[] patterns = new Maker[4];
    private final StringBuilder draft = new StringBuilder();
    private final StringBuilder text = new StringBuilder();
    private int budget = 250;
    private int[] latest = {-1};
    private int latestTrials;
    private List<int[]> matches = new ArrayList<>();
    private String out = "";

    /** A pattern whose tree is known may be told. */
    void know(Maker maker) {
        known.put(maker.signs, maker);
    }

    /** Whether tell() is sure to be answered here: the draft has a fault, or its tree is known. */
    boolean canTell() {
        return Grammar.fault(draft.toString()) != -1 || known.containsKey(draft.toString());
    }

    int length() {
        return text.length();
    }

    String sign(char sign) {
        if ("abcdefghijklmnopqrstuvwxyzABCDEFGHIJKLMNOPQRSTUVWXYZ0123456789_ .*+?{}()[]|^$\\,:=!<>-#"
                .indexOf(sign) < 0) {
            return ARGUMENT;
        }
        if (draft.length() == 32) {
            return STATE;
        }
        return "" + draft.append(sign).length();
    }

    String clear() {
        int had = draft.length();
        draft.setLength(0);
        return "" + had;
    }

    String tell(int pattern) {
        if (pattern < 0 || pattern > 3) {
            return BOUNDS;
        }
        if (Grammar.fault(draft.toString()) != -1) {
            return STATE;
        }
        patterns[pattern] = known.get(draft.toString());
        draft.setLength(0);
        return "" + patterns[pattern].groups;
    }

    String fault() {
        return "" + Grammar.fault(draft.toString());
    }

    String lot() {
        if (text.length() + draft.length() > 20 || !draft.toString().matches("[a-zA-Z0-9_ ]*")) {
            return STATE;
        }
        text.append(draft);
        draft.setLength(0);
        return "" + text.length();
    }

    String wipe() {
        int had = text.length();
        text.setLength(0);
        return "" + had;
    }

    /** What keeps a call from its answer; needs: 0 that it is told, 1 that it is plain, 2 regular. */
    private String obstacle(int pattern, int needs, int... places) {
        boolean isOut = pattern < 0 || pattern > 3;
        for (int place : places) {
            isOut |= place < 0 || place > text.length();
        }
        if (isOut) {
            return BOUNDS;
        }
        if (patterns[pattern] == null || needs >= 1 && !Trees.isPlain(patterns[pattern].pattern)
                || needs == 2 && Trees.hasEdge(patterns[pattern].pattern)) {
            return STATE;
        }
        return null;
    }

    private Model model(int pattern) {
        Model model = new Model(patterns[pattern].pattern, text.toString());
        model.budget = budget;
        return model;
    }

    String isPlain(int pattern) {
        String no = obstacle(pattern, 0);
        return no != null ? no : "" + Trees.isPlain(patterns[pattern].pattern);
    }

    String isRegular(int pattern) {
        String no = obstacle(pattern, 0);
        return no != null ? no : "" + (obstacle(pattern, 2) == null);
    }

    String setBudget(int trials) {
        if (trials < 1 || trials > 250) {
            return ARGUMENT;
        }
        int former = budget;
        budget = trials;
        return "" + former;
    }

    String match(int pattern, int from) {
        String no = obstacle(pattern, 0, from);
        if (no != null) {
            return no;
        }
        Model model = model(pattern);
        latest = model.match(from);
        latestTrials = model.trials;
        return "" + (latest[0] < 0 ? latest[0] : latest[1]);
    }

    String find(int pattern, int from) {
        String no = obstacle(pattern, 0, from);
        if (no != null) {
            return no;
        }
        Model model = model(pattern);
        latest = model.find(from);
        latestTrials = model.trials;
        return "" + latest[0];
    }

    /** Null if there is too much for the model to try. */
    String matchBySets(int pattern, int from) {
        String no = obstacle(pattern, 1, from);
        if (no != null) {
            return no;
        }
        Model model = model(pattern);
        model.budget = 100000;
        int[] all = model.match(from);
        if (all[0] == -2) {
            return null;
        }
        latest = all;
        return "" + (all[0] < 0 ? -1 : all[1]);
    }

    String group(int group, boolean isEnd) {
        if (group < 0 || group > 6) {
            return BOUNDS;
        }
        return "" + (latest[0] < 0 ? -1 : latest[2 * group + (isEnd ? 1 : 0)]);
    }

    String trials() {
        return "" + latestTrials;
    }

    private Trees.Language left(int pattern, int from, int[] longest) {
        Trees.Language left = Trees.language(patterns[pattern].pattern);
        longest[0] = left.isEmptyIn() ? from : -1;
        for (int place = from; place < text.length(); place++) {
            left = left.behind(text.charAt(place));
            longest[0] = left.isEmptyIn() ? place + 1 : longest[0];
        }
        return left;
    }

    String longest(int pattern, int from) {
        String no = obstacle(pattern, 2, from);
        if (no != null) {
            return no;
        }
        int[] longest = {0};
        left(pattern, from, longest);
        return "" + longest[0];
    }

    String canStill(int pattern, int from) {
        String no = obstacle(pattern, 2, from);
        return no != null ? no : "" + left(pattern, from, new int[1]).hasAny();
    }

    String which(int from) {
        if (from < 0 || from > text.length()) {
            return BOUNDS;
        }
        int those = 0;
        for (int k = 0; k < 4; k++) {
            if (patterns[k] != null && model(k).match(from)[0] >= 0) {
                those |= 1 << k;
            }
        }
        return "" + those;
    }

    /** Null if there is too much for the model to try. */
    String ways(int pattern, int from, int to) {
        String no = obstacle(pattern, 1, from, to);
        if (no != null) {
            return no;
        }
        int ways = model(pattern).ways(from, to);
        return ways < 0 ? null : "" + ways;
    }

    String findAll(int pattern) {
        String no = obstacle(pattern, 0);
        if (no != null) {
            return no;
        }
        matches = model(pattern).findAll();
        if (!matches.isEmpty() && matches.get(matches.size() - 1)[0] == -2) {
            matches.remove(matches.size() - 1);
        }
        return "" + matches.size();
    }

    String found(int match, boolean isEnd) {
        return match < 0 || match >= matches.size() ? BOUNDS : "" + matches.get(match)[isEnd ? 1 : 0];
    }

    String replace(int pattern) {
        String no = obstacle(pattern, 0);
        if (no != null) {
            return no;
        }
        List<int[]> all = model(pattern).findAll();
        String next = Trees.replaced(text.toString(), all, draft.toString());
        if (!all.isEmpty() && all.get(all.size() - 1)[0] == -2 || next.length() > 100) {
            return STATE;
        }
        out = next;
        draft.setLength(0);
        return "" + out.length();
    }

    String outSign(int place) {
        return place < 0 || place >= out.length() ? BOUNDS : "" + out.charAt(place);
    }
}
