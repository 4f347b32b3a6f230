import java.util.List;

/** Promises 9, 10, 12 to 21 and 23 against the model, over patterns and texts made by chance. */
public final class ModelTest {
    private static final Checks CHECKS = new Checks();
    private static int matched;
    private static int cutShort;
    private static int plainOnes;

    public static void main(String[] args) {
        int rounds = args.length > 0 ? Integer.parseInt(args[0]) : 20000;
        for (int seed = 1; seed <= rounds; seed++) {
            Maker maker = new Maker(seed);
            maker.make(seed % 3 == 0);
            oneRound(maker, seed);
        }
        System.out.println("matched " + matched + ", given up " + cutShort + ", plain " + plainOnes);
        CHECKS.due("that many match", matched > rounds / 10, true);
        CHECKS.due("that some are given up", cutShort > rounds / 1000, true);
        CHECKS.due("that many are plain", plainOnes > rounds / 10, true);
        CHECKS.end("ModelTest");
    }

    private static void oneRound(Maker maker, int seed) {
        Regexloom x = new Regexloom();
        Checks.draw(x, maker.signs);
        String what = "seed " + seed + " pattern " + maker.signs;
        CHECKS.due(what + " fault", x.fault(), -1);
        CHECKS.due(what + " groups", x.tell(1), maker.groups);
        boolean isPlain = Trees.isPlain(maker.pattern);
        CHECKS.due(what + " isPlain", x.isPlain(1), isPlain);
        CHECKS.due(what + " isRegular", x.isRegular(1), isPlain && !Trees.hasEdge(maker.pattern));
        if (isPlain) {
            plainOnes++;
        }
        for (int k = 0; k < 3; k++) {
            String text = maker.text(k == 0 ? 6 : 12);
            Checks.text(x, text);
            int budget = k == 2 ? 1 + maker.next(60) : 250;
            x.setBudget(budget);
            int from = maker.next(text.length() + 1);
            String where = what + " text '" + text + "' from " + from + " budget " + budget;
            matching(x, maker, where, text, from, budget);
            searchingOn(x, maker, where, text, budget);
            if (isPlain) {
                bySets(x, maker, where, text, from);
            } else {
                CHECKS.throwing(where, "IllegalStateException", () -> x.matchBySets(1, from));
                CHECKS.throwing(where, "IllegalStateException", () -> x.ways(1, from, from));
            }
            if (x.isRegular(1)) {
                regular(x, maker, where, text, from);
            } else {
                CHECKS.throwing(where, "IllegalStateException", () -> x.longest(1, from));
                CHECKS.throwing(where, "IllegalStateException", () -> x.canStill(1, from));
            }
        }
    }

    private static Model model(Maker maker, String text, int budget) {
        Model model = new Model(maker.pattern, text);
        model.budget = budget;
        return model;
    }

    private static void groups(Regexloom x, String where, int[] due) {
        for (int g = 0; g <= 6; g++) {
            CHECKS.due(where + " group " + g, x.group(g, false), due[0] < 0 ? -1 : due[2 * g]);
            CHECKS.due(where + " group end " + g, x.group(g, true), due[0] < 0 ? -1 : due[2 * g + 1]);
        }
    }

    private static void matching(Regexloom x, Maker maker, String where, String text, int from, int budget) {
        Model model = model(maker, text, budget);
        int[] due = model.match(from);
        CHECKS.due(where + " match", x.match(1, from), due[0] < 0 ? due[0] : due[1]);
        CHECKS.due(where + " trials", x.trials(), model.trials);
        groups(x, where + " match", due);
        CHECKS.due(where + " which", x.which(from), due[0] < 0 ? 0 : 2);
        groups(x, where + " which", due);
        if (due[0] >= 0) {
            matched++;
        }
        if (due[0] == -2) {
            cutShort++;
        }
        model = model(maker, text, budget);
        due = model.find(from);
        CHECKS.due(where + " find", x.find(1, from), due[0]);
        CHECKS.due(where + " find trials", x.trials(), model.trials);
        groups(x, where + " find", due);
    }

    private static void searchingOn(Regexloom x, Maker maker, String where, String text, int budget) {
        List<int[]> due = model(maker, text, budget).findAll();
        boolean isGivenUp = !due.isEmpty() && due.get(due.size() - 1)[0] == -2;
        int count = due.size() - (isGivenUp ? 1 : 0);
        CHECKS.due(where + " findAll", x.findAll(1), count);
        for (int k = 0; k < count; k++) {
            CHECKS.due(where + " found " + k, x.found(k, false), due.get(k)[0]);
            CHECKS.due(where + " found end " + k, x.found(k, true), due.get(k)[1]);
        }
        CHECKS.throwing(where + " found", "IndexOutOfBoundsException", () -> x.found(count, true));
        String template = new String[] {"<$1>", "^1-2$0", "#$3$$9", "-0^", ""}[maker.next(5)];
        x.clear();
        Checks.draw(x, template);
        String out = Trees.replaced(text, due, template);
        if (isGivenUp || out.length() > 100) {
            CHECKS.throwing(where + " replace", "IllegalStateException", () -> x.replace(1));
            CHECKS.due(where + " draft", x.clear(), template.length());
        } else {
            CHECKS.due(where + " replace " + template, x.replace(1), out.length());
            CHECKS.due(where + " replace " + template, Checks.out(x, out.length()), out);
            CHECKS.due(where + " draft", x.clear(), 0);
        }
    }

    private static void bySets(Regexloom x, Maker maker, String where, String text, int from) {
        Model model = model(maker, text, 200000);
        int[] due = model.match(from);
        if (due[0] != -2) {
            CHECKS.due(where + " matchBySets", x.matchBySets(1, from), due[0] < 0 ? -1 : due[1]);
            groups(x, where + " matchBySets", due);
        }
        for (int to = 0; to <= text.length(); to++) {
            int ways = model(maker, text, 0).ways(from, to);
            if (ways >= 0) {
                CHECKS.due(where + " ways to " + to, x.ways(1, from, to), ways);
            }
        }
    }

    private static void regular(Regexloom x, Maker maker, String where, String text, int from) {
        Trees.Language left = Trees.language(maker.pattern);
        int longest = left.isEmptyIn() ? from : -1;
        for (int place = from; place < text.length(); place++) {
            left = left.behind(text.charAt(place));
            if (left.isEmptyIn()) {
                longest = place + 1;
            }
        }
        CHECKS.due(where + " longest", x.longest(1, from), longest);
        CHECKS.due(where + " canStill", x.canStill(1, from), left.hasAny());
    }
}
