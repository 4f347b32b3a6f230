import java.util.function.Function;

/**
 * The sentences of the document that name a boundary, in its order: each has a function of its own
 * here, with the sentence above it. PromiseTest asks for the same promises in the middle.
 */
public final class EdgesTest {
    private static final Checks CHECKS = new Checks();
    private static final String BOUNDS = "IndexOutOfBoundsException";
    private static final String ARGUMENT = "IllegalArgumentException";
    private static final String STATE = "IllegalStateException";
    private static final String TEXT_SIGNS = "abcdefghijklmnopqrstuvwxyzABCDEFGHIJKLMNOPQRSTUVWXYZ0123456789_ ";
    private static final String OTHER_SIGNS = ".*+?{}()[]|^$\\,:=!<>-#";
    private static final int[] FAR_OFF = {Integer.MIN_VALUE, -2, 1000, Integer.MAX_VALUE};

    public static void main(String[] args) {
        signs();
        patterns();
        backingUp();
        cuts();
        trials();
        otherWays();
        replacing();
        calls();
        CHECKS.end("EdgesTest");
    }

    // ---- asking

    /** The match at a place as its groups, the last ones that are not set left out, or what there is instead. */
    private static String matched(Regexloom x, int from) {
        int end = x.match(0, from);
        return end < 0 ? "" + end : Checks.groups(x).replaceAll("( \\.)+$", "");
    }

    /** By backing up, and, if the pattern is plain, by sets of states, too. */
    private static void match(String pattern, String text, int from, String due) {
        Regexloom x = Checks.with(pattern, text);
        String what = pattern + " in '" + text + "' at " + from;
        CHECKS.due("match " + what, matched(x, from), due);
        if (x.isPlain(0) && !due.equals("-2")) {
            int end = x.matchBySets(0, from);
            CHECKS.due("matchBySets " + what,
                    end < 0 ? "" + end : Checks.groups(x).replaceAll("( \\.)+$", ""), due);
            if (end >= 0) {
                CHECKS.due("ways of the match of " + what, x.ways(0, from, end) > 0, true);
            }
        }
    }

    private static void find(String pattern, String text, int from, int due) {
        CHECKS.due("find " + pattern + " in '" + text + "' from " + from,
                Checks.with(pattern, text).find(0, from), due);
    }

    private static void trialsOf(String pattern, String text, int from, int due) {
        Regexloom x = Checks.with(pattern, text);
        x.match(0, from);
        CHECKS.due("trials of " + pattern + " in '" + text + "' at " + from, x.trials(), due);
    }

    /** The fault, which must leave the draft, and what tell() makes of it. */
    private static void fault(String draft, int due) {
        Regexloom x = new Regexloom();
        Checks.draw(x, draft);
        CHECKS.due("fault of " + draft, x.fault(), due);
        CHECKS.due("fault again of " + draft, x.fault(), due);
        if (due != -1) {
            CHECKS.throwing("tell " + draft, STATE, () -> x.tell(0));
            CHECKS.due("draft of " + draft, x.clear(), draft.length());
            return;
        }
        x.tell(0);
        CHECKS.due("draft of " + draft + " when told", x.clear(), 0);
    }

    private static void plain(String pattern, boolean isPlain, boolean isRegular) {
        Regexloom x = Checks.with(pattern, "");
        CHECKS.due("isPlain " + pattern, x.isPlain(0), isPlain);
        CHECKS.due("isRegular " + pattern, x.isRegular(0), isRegular);
        String sets = Checks.answer(() -> x.matchBySets(0, 0));
        CHECKS.due("matchBySets of " + pattern + " throws", sets.equals(STATE), !isPlain);
        String ways = Checks.answer(() -> x.ways(0, 0, 0));
        CHECKS.due("ways of " + pattern + " throws", ways.equals(STATE), !isPlain);
        String longest = Checks.answer(() -> x.longest(0, 0));
        CHECKS.due("longest of " + pattern + " throws", longest.equals(STATE), !isRegular);
        String canStill = Checks.answer(() -> x.canStill(0, 0));
        CHECKS.due("canStill of " + pattern + " throws", canStill.equals(STATE), !isRegular);
    }

    private static void ways(String pattern, String text, int due) {
        CHECKS.due("ways of " + pattern + " in '" + text + "'",
                Checks.with(pattern, text).ways(0, 0, text.length()), due);
    }

    private static String all(Regexloom x) {
        int count = x.findAll(0);
        StringBuilder all = new StringBuilder();
        for (int k = 0; k < count; k++) {
            all.append(x.found(k, false)).append('-').append(x.found(k, true)).append(' ');
        }
        CHECKS.throwing("found " + count, BOUNDS, () -> x.found(count, false));
        return all.toString();
    }

    private static void findAll(String pattern, String text, String due) {
        CHECKS.due("findAll " + pattern + " in '" + text + "'", all(Checks.with(pattern, text)), due);
    }

    private static void replaced(String pattern, String text, String template, String due) {
        Regexloom x = Checks.with(pattern, text);
        Checks.draw(x, template);
        String what = "replace " + pattern + " in '" + text + "' by " + template;
        CHECKS.due(what, Checks.answer(() -> x.replace(0)), due.length());
        CHECKS.due(what, Checks.answer(() -> Checks.out(x, due.length())), due);
        CHECKS.throwing(what + ", behind it", BOUNDS, () -> x.outSign(due.length()));
    }

    private static String row(char sign, int count) {
        return String.valueOf(sign).repeat(count);
    }

    // ---- signs

    private static void signs() {
        textOf20();
        lotsOfWrongSigns();
        wordSigns();
        placesOfAText();
        draftOf32();
        emptyDraft();
        emptyText();
    }

    /** "A text has at most 20 signs." "or the text would have more than 20" */
    private static void textOf20() {
        Regexloom x = new Regexloom();
        Checks.draw(x, row('a', 20));
        CHECKS.due("a lot of 20", x.lot(), 20);
        CHECKS.due("an empty lot behind 20", x.lot(), 20);
        Checks.draw(x, "b");
        CHECKS.throwing("a 21st sign", STATE, () -> x.lot());
        CHECKS.due("the text stays", x.length(), 20);
        CHECKS.due("the draft stays", x.clear(), 1);
        CHECKS.due("wipe 20", x.wipe(), 20);
        Checks.draw(x, row('a', 21));
        CHECKS.throwing("a lot of 21", STATE, () -> x.lot());
        CHECKS.due("the text stays", x.length(), 0);
        CHECKS.due("the draft stays", x.clear(), 21);
        Checks.draw(x, row('a', 32));
        CHECKS.throwing("a lot of 32", STATE, () -> x.lot());
        x.clear();
        for (int k = 1; k <= 20; k++) {
            x.sign('a');
            CHECKS.due("lots of one sign", x.lot(), k);
        }
        x.sign('a');
        CHECKS.throwing("a lot of one sign more", STATE, () -> x.lot());
        x.wipe();
        CHECKS.due("the same lot, when there is room again", x.lot(), 1);
        Checks.draw(x, row('a', 20));
        CHECKS.throwing("20 behind 1", STATE, () -> x.lot());
        CHECKS.due("none of them came in", x.length(), 1);
    }

    /** "if the draft has a sign that no text has": as the first one, the last one, or between. */
    private static void lotsOfWrongSigns() {
        Regexloom x = new Regexloom();
        for (char sign : (TEXT_SIGNS + OTHER_SIGNS).toCharArray()) {
            boolean isOfText = TEXT_SIGNS.indexOf(sign) >= 0;
            for (String lot : new String[] {"" + sign, sign + "ab", "a" + sign + "b", "ab" + sign, row(sign, 20)}) {
                x.wipe();
                Checks.draw(x, lot);
                CHECKS.due("lot " + lot, Checks.answer(() -> x.lot()), isOfText ? "" + lot.length() : STATE);
                CHECKS.due("text of " + lot, x.length(), isOfText ? lot.length() : 0);
                CHECKS.due("draft of " + lot, x.clear(), isOfText ? 0 : lot.length());
            }
        }
    }

    /** "All but blanks are word signs." "\w a word sign, \d 0 to 9", ". for any sign" */
    private static void wordSigns() {
        for (char sign : TEXT_SIGNS.toCharArray()) {
            Regexloom x = Checks.with("\\w", "" + sign);
            CHECKS.due("\\w for '" + sign + "'", x.match(0, 0), sign == ' ' ? -1 : 1);
            Checks.tell(x, 0, "\\d");
            CHECKS.due("\\d for '" + sign + "'", x.match(0, 0), sign >= '0' && sign <= '9' ? 1 : -1);
            Checks.tell(x, 0, ".");
            CHECKS.due(". for '" + sign + "'", x.match(0, 0), 1);
            CHECKS.due(". behind '" + sign + "'", x.match(0, 1), -1);
            Checks.tell(x, 0, "" + sign);
            CHECKS.due("'" + sign + "' for itself", x.match(0, 0), 1);
            CHECKS.due("'" + sign + "' by sets", x.matchBySets(0, 0), 1);
            Checks.text(x, sign == 'a' ? "b" : "a");
            CHECKS.due("'" + sign + "' for another one", x.match(0, 0), -1);
            CHECKS.due("'" + sign + "' for another one by sets", x.matchBySets(0, 0), -1);
        }
    }

    /** "The places of a text are 0 to its length." */
    private static void placesOfAText() {
        for (String text : new String[] {"", "a", row('a', 20)}) {
            Regexloom x = Checks.with("", text);
            int size = text.length();
            for (int from : new int[] {0, size}) {
                CHECKS.due("match at " + from, x.match(0, from), from);
                CHECKS.due("find from " + from, x.find(0, from), from);
                CHECKS.due("matchBySets at " + from, x.matchBySets(0, from), from);
                CHECKS.due("longest at " + from, x.longest(0, from), from);
                CHECKS.due("canStill at " + from, x.canStill(0, from), from == size);
                CHECKS.due("which at " + from, x.which(from), 1);
                CHECKS.due("ways at " + from, x.ways(0, from, from), 1);
            }
            for (int wrong : new int[] {-1, size + 1}) {
                noSuchPlace(x, wrong);
            }
            for (int wrong : FAR_OFF) {
                noSuchPlace(x, wrong);
            }
        }
    }

    private static void noSuchPlace(Regexloom x, int wrong) {
        CHECKS.throwing("match at " + wrong, BOUNDS, () -> x.match(0, wrong));
        CHECKS.throwing("find from " + wrong, BOUNDS, () -> x.find(0, wrong));
        CHECKS.throwing("matchBySets at " + wrong, BOUNDS, () -> x.matchBySets(0, wrong));
        CHECKS.throwing("longest at " + wrong, BOUNDS, () -> x.longest(0, wrong));
        CHECKS.throwing("canStill at " + wrong, BOUNDS, () -> x.canStill(0, wrong));
        CHECKS.throwing("which at " + wrong, BOUNDS, () -> x.which(wrong));
        CHECKS.throwing("ways from " + wrong, BOUNDS, () -> x.ways(0, wrong, 0));
        CHECKS.throwing("ways to " + wrong, BOUNDS, () -> x.ways(0, 0, wrong));
        CHECKS.throwing("ways from and to " + wrong, BOUNDS, () -> x.ways(0, wrong, wrong));
    }

    /** "There is a draft of at most 32 signs, these or one of .." "if sign is none of those", "if it has 32" */
    private static void draftOf32() {
        Regexloom x = new Regexloom();
        for (int k = 1; k <= 32; k++) {
            CHECKS.due("sign number " + k, x.sign('('), k);
        }
        for (char sign : (TEXT_SIGNS + OTHER_SIGNS).toCharArray()) {
            CHECKS.throwing("'" + sign + "' as the 33rd sign", STATE, () -> x.sign(sign));
        }
        for (int c : new int[] {0, 9, 10, 31, 34, 37, 38, 39, 47, 59, 64, 96, 126, 127, 128, 255, 65535}) {
            CHECKS.throwing("the sign " + c + " behind 32", ARGUMENT, () -> x.sign((char) c));
        }
        CHECKS.due("32 are there", x.clear(), 32);
        for (int c : new int[] {0, 9, 10, 31, 34, 37, 38, 39, 47, 59, 64, 96, 126, 127, 128, 255, 65535}) {
            CHECKS.throwing("the sign " + c, ARGUMENT, () -> x.sign((char) c));
        }
        CHECKS.due("none came in", x.clear(), 0);
        for (char sign : (TEXT_SIGNS + OTHER_SIGNS).toCharArray()) {
            CHECKS.due("the sign '" + sign + "'", x.sign(sign), 1);
            CHECKS.due("the sign '" + sign + "' came in", x.clear(), 1);
        }
        fault(row('a', 32), -1);
        fault(row('|', 32), -1);
        fault(row('a', 31) + "(", 32);
        fault(row('a', 31) + ")", 31);
        fault(row('a', 30) + "\\1", 33);
        match(row('a', 12) + "(" + row('b', 4) + ")\\1" + row('c', 12), "ab", 0, "-1");
        match("(a)(?:a|b)*(?=(?:c|d){1,2}$)[cd]", "abbac", 0, "0-5 0-1");
        replaced("b", "abc", row('x', 32), "a" + row('x', 32) + "c");
    }

    /** An empty draft, of each method that takes one: "A branch is a row of pieces, perhaps of none." */
    private static void emptyDraft() {
        Regexloom x = new Regexloom();
        CHECKS.due("clear of nothing", x.clear(), 0);
        CHECKS.due("fault of nothing", x.fault(), -1);
        CHECKS.due("lot of nothing", x.lot(), 0);
        CHECKS.due("tell nothing", x.tell(0), 0);
        CHECKS.due("the empty pattern", x.match(0, 0), 0);
        CHECKS.due("the trials of the empty pattern", x.trials(), 0);
        CHECKS.due("nothing by nothing", x.replace(0), 0);
        match("|", "a", 0, "0-0");
        match("a||b", "b", 0, "0-0");
        match("(|a)b", "ab", 0, "0-2 0-1");
        match("()", "", 0, "0-0 0-0");
        match("(?=)(?<=)(?>)(?:)(?i:)(?|)", "", 0, "0-0");
        match("(?!)", "", 0, "-1");
        match("(?<!)", "", 0, "-1");
        match("()(?(1))a", "a", 0, "0-1 0-0");
        replaced("a", "bab", "", "bb");
    }

    /** An empty text: "an empty text, an empty draft, an empty out" */
    private static void emptyText() {
        Regexloom x = Checks.with("a?", "");
        CHECKS.due("length", x.length(), 0);
        CHECKS.due("wipe", x.wipe(), 0);
        CHECKS.due("match", x.match(0, 0), 0);
        CHECKS.due("find", x.find(0, 0), 0);
        CHECKS.due("matchBySets", x.matchBySets(0, 0), 0);
        CHECKS.due("longest", x.longest(0, 0), 0);
        CHECKS.due("canStill", x.canStill(0, 0), true);
        CHECKS.due("which", x.which(0), 1);
        CHECKS.due("ways", x.ways(0, 0, 0), 1);
        CHECKS.due("findAll", all(x), "0-0 ");
        replaced("a?", "", "<$0>", "<>");
        replaced("a", "", "b", "");
        match("a", "", 0, "-1");
        find("a", "", 0, -1);
        CHECKS.due("longest of none", Checks.with("a", "").longest(0, 0), -1);
        CHECKS.due("canStill of what is to come", Checks.with("a", "").canStill(0, 0), true);
        CHECKS.due("which of none", Checks.with("a", "").which(0), 0);
        ways("a", "", 0);
        findAll("a", "", "");
    }

    // ---- patterns

    private static void patterns() {
        patternsAre4();
        countsAtTheirLimits();
        noCountBehind();
        classes();
        escapes();
        edgesOfTexts();
        sixGroups();
        resets();
        alike();
        conditions();
        notTold();
        tooEarly();
    }

    /** "There are 4 patterns, 0 to 3, none of them told at first." */
    private static void patternsAre4() {
        Regexloom x = new Regexloom();
        for (int k = 0; k < 4; k++) {
            int p = k;
            CHECKS.throwing("isPlain of " + k, STATE, () -> x.isPlain(p));
            CHECKS.throwing("isRegular of " + k, STATE, () -> x.isRegular(p));
            notToldYet(x, p, STATE);
        }
        for (int wrong : new int[] {-1, 4}) {
            noSuchPattern(x, wrong);
        }
        for (int wrong : FAR_OFF) {
            noSuchPattern(x, wrong);
        }
        for (int k = 0; k < 4; k++) {
            CHECKS.due("which before " + k, x.which(0), (1 << k) - 1);
            CHECKS.due("tell " + k, x.tell(k), 0);
        }
        CHECKS.due("which of all", x.which(0), 15);
        // "Tells the draft as a pattern, in place of one"
        Checks.text(x, "ab");
        for (int k = 0; k < 4; k++) {
            CHECKS.due("the empty one " + k, x.match(k, 0) + x.matchBySets(k, 0) + x.longest(k, 0), 0);
            Checks.tell(x, k, "a");
            CHECKS.due("another one " + k, x.match(k, 0) + x.matchBySets(k, 0) + x.longest(k, 0), 3);
            CHECKS.due("ways of another one " + k, x.ways(k, 0, 1), 1);
            Checks.tell(x, k, "ab");
            CHECKS.due("one more " + k, x.match(k, 0) + x.matchBySets(k, 0) + x.longest(k, 0), 6);
            CHECKS.due("ways of one more " + k, x.ways(k, 0, 1), 0);
            Checks.tell(x, k, "a|ab");
            CHECKS.due("canStill of one more " + k, x.canStill(k, 0), true);
            Checks.tell(x, k, "a");
            CHECKS.due("canStill of another one " + k, x.canStill(k, 0), false);
        }
    }

    private static void noSuchPattern(Regexloom x, int wrong) {
        CHECKS.throwing("tell " + wrong, BOUNDS, () -> x.tell(wrong));
        CHECKS.throwing("isPlain of " + wrong, BOUNDS, () -> x.isPlain(wrong));
        CHECKS.throwing("isRegular of " + wrong, BOUNDS, () -> x.isRegular(wrong));
        notToldYet(x, wrong, BOUNDS);
    }

    private static void notToldYet(Regexloom x, int p, String name) {
        CHECKS.throwing("match of " + p, name, () -> x.match(p, 0));
        CHECKS.throwing("find of " + p, name, () -> x.find(p, 0));
        CHECKS.throwing("matchBySets of " + p, name, () -> x.matchBySets(p, 0));
        CHECKS.throwing("longest of " + p, name, () -> x.longest(p, 0));
        CHECKS.throwing("canStill of " + p, name, () -> x.canStill(p, 0));
        CHECKS.throwing("ways of " + p, name, () -> x.ways(p, 0, 0));
        CHECKS.throwing("findAll of " + p, name, () -> x.findAll(p));
        CHECKS.throwing("replace of " + p, name, () -> x.replace(p));
    }

    /** "* (0 or more), + (1 or more), ? (0 or 1)", "n not above m, m not 0; in {n} m is n, so {0} is none" */
    private static void countsAtTheirLimits() {
        taken("a*", 0, 20);
        taken("a+", 1, 20);
        taken("a?", 0, 1);
        taken("a{1}", 1, 1);
        taken("a{9}", 9, 9);
        taken("a{0,}", 0, 20);
        taken("a{1,}", 1, 20);
        taken("a{9,}", 9, 20);
        taken("a{0,1}", 0, 1);
        taken("a{0,9}", 0, 9);
        taken("a{1,1}", 1, 1);
        taken("a{8,9}", 8, 9);
        taken("a{9,9}", 9, 9);
        fault("a{0}", 3);
        fault("a{0,0}", 4);
        fault("a{1,0}", 4);
        fault("a{9,8}", 4);
        fault("a{10}", 3);
        fault("a{1,10}", 5);
        fault("a{9,10}", 4);
        fault("a{,1}", 2);
        fault("a{}", 2);
        fault("a{a}", 2);
        fault("a{1,a}", 4);
        fault("a{1,,}", 4);
        fault("a{1,2,}", 5);
        fault("a{-1}", 2);
        fault("a{0,1}?", -1);
        fault("a{0,1}+", -1);
        fault("a{0,1}*", 6);
        fault("a*??", 3);
        fault("a*++", 3);
        fault("a?+?", 3);
    }

    /** A count takes so many signs at least, and so many at most, greedy, lazy, possessive and by sets. */
    private static void taken(String count, int least, int most) {
        for (int size = 0; size <= 20; size++) {
            String text = row('a', size);
            boolean isEnough = size >= least;
            int top = Math.min(size, most);
            match(count, text, 0, isEnough ? "0-" + top : "-1");
            match(count + "?", text, 0, isEnough ? "0-" + least : "-1");
            match(count + "+", text, 0, isEnough ? "0-" + top : "-1");
            match(count + "+a", text, 0, isEnough && size > most ? "0-" + (top + 1) : "-1");
            Regexloom x = Checks.with(count, text);
            CHECKS.due(count + " by sets of " + size, x.matchBySets(0, 0), isEnough ? top : -1);
            Checks.tell(x, 1, count + "?");
            CHECKS.due(count + "? by sets of " + size, x.matchBySets(1, 0), isEnough ? least : -1);
            CHECKS.due(count + "? longest of " + size, x.longest(1, 0), isEnough ? top : -1);
            CHECKS.due(count + " longest of " + size, x.longest(0, 0), isEnough ? top : -1);
            CHECKS.due(count + " ways of " + size, x.ways(0, 0, size), isEnough && size <= most ? 1 : 0);
            CHECKS.due(count + " canStill of " + size, x.canStill(0, 0), size <= most || most == 20);
        }
    }

    /** "A count behind ^, $, \b, \B, a look or a cut is refused." */
    private static void noCountBehind() {
        for (String count : new String[] {"*", "+", "?", "{1}", "{0,1}"}) {
            for (String atom : new String[] {"^", "$", "\\b", "\\B", "(?=a)", "(?!a)", "(?<=a)", "(?<!a)", "(*C)",
                "(*P)", "(*S)", "(*T)"}) {
                fault("a" + atom, -1);
                fault("a" + atom + count, 1 + atom.length());
            }
            for (String atom : new String[] {"a", ".", "\\w", "\\d", "\\.", "[a]", "[^a]", "(a)", "(?:^)", "(?i:a)",
                "(?|a)", "(?>a)", "(?R)", "(?:$)", "(?:(?=a))", "(?:(*C))"}) {
                fault(atom + count, -1);
            }
            fault("(a)\\1" + count, -1);
            fault("(a)(?1)" + count, -1);
            fault("(a)(?(1)b)" + count, -1);
            fault(count, 0);
            fault("(" + (count.startsWith("{") ? count : "+") + ")", 1);
            fault("a|" + count, 2);
        }
    }

    /** "ranges x-y of them (both small letters, both capitals, or both digits, x not behind y), at least one" */
    private static void classes() {
        taking("[b-y]", TEXT_SIGNS.substring(1, 25));
        taking("[a-z]", TEXT_SIGNS.substring(0, 26));
        taking("[A-Z]", TEXT_SIGNS.substring(26, 52));
        taking("[0-9]", TEXT_SIGNS.substring(52, 62));
        taking("[1-8]", TEXT_SIGNS.substring(53, 61));
        taking("[a-a]", "a");
        taking("[Z-Z]", "Z");
        taking("[9-9]", "9");
        taking("[_ ]", "_ ");
        taking("[a-zA-Z0-9_ ]", TEXT_SIGNS);
        taking("[^a-zA-Z0-9_ ]", "");
        taking("[^a-zA-Z0-9_]", " ");
        taking("[^B-Zb-z0-9_ ]", "aA");
        fault("[]", 1);
        fault("[^]", 2);
        fault("[b-a]", 3);
        fault("[B-A]", 3);
        fault("[1-0]", 3);
        fault("[a-B]", 3);
        fault("[A-b]", 3);
        fault("[0-a]", 3);
        fault("[a-0]", 3);
        fault("[_-_]", 2);
        fault("[ - ]", 2);
        fault("[-a]", 1);
        fault("[a-]", 3);
        fault("[a-b-c]", 4);
        fault("[a^]", 2);
        fault("[^^]", 2);
        fault("[[]", 1);
        fault("[\\w]", 1);
        fault("[z-z9-9Z-Z]", -1);
    }

    /** Takes these signs of all, and no other one. */
    private static void taking(String pattern, String those) {
        for (char sign : TEXT_SIGNS.toCharArray()) {
            Regexloom x = Checks.with(pattern, "" + sign);
            int due = those.indexOf(sign) >= 0 ? 1 : -1;
            CHECKS.due(pattern + " for '" + sign + "'", x.match(0, 0), due);
            CHECKS.due(pattern + " for '" + sign + "' by sets", x.matchBySets(0, 0), due);
        }
        match(pattern, "", 0, "-1");
    }

    /** "\ and one of . * + ? ( ) [ ] | ^ $ \ that sign (which no text has)" */
    private static void escapes() {
        for (char sign : (TEXT_SIGNS + OTHER_SIGNS).toCharArray()) {
            boolean isSign = ".*+?()[]|^$\\".indexOf(sign) >= 0;
            boolean isOther = "wdbB".indexOf(sign) >= 0;
            boolean isReference = sign >= '1' && sign <= '6';
            fault("\\" + sign, isSign || isOther ? -1 : isReference ? 3 : 1);
            if (isSign) {
                taking("\\" + sign, "");
                match("\\" + sign + "?a", "a", 0, "0-1");
            }
        }
    }

    /** "^ at the place 0, $ at the end, \b between a word sign and none, \B otherwise" */
    private static void edgesOfTexts() {
        for (String text : new String[] {"", "a", " ", "ab", "a ", " a", "  ", row('_', 20)}) {
            for (int place = 0; place <= text.length(); place++) {
                String here = place + "-" + place;
                boolean isBehindWord = place > 0 && text.charAt(place - 1) != ' ';
                boolean isBeforeWord = place < text.length() && text.charAt(place) != ' ';
                match("^", text, place, place == 0 ? here : "-1");
                match("$", text, place, place == text.length() ? here : "-1");
                match("\\b", text, place, isBehindWord != isBeforeWord ? here : "-1");
                match("\\B", text, place, isBehindWord == isBeforeWord ? here : "-1");
                edgesBySets("^", text, place);
                edgesBySets("$", text, place);
                edgesBySets("\\b", text, place);
                edgesBySets("\\B", text, place);
            }
        }
    }

    private static void edgesBySets(String edge, String text, int place) {
        Regexloom x = Checks.with(edge, text);
        int due = x.match(0, place);
        CHECKS.due(edge + " by sets in '" + text + "' at " + place, x.matchBySets(0, place), due);
        CHECKS.due(edge + " ways in '" + text + "' at " + place, x.ways(0, place, place), due < 0 ? 0 : 1);
    }

    /** "groups have numbers from 1 on, .. 6 at most", "a seventh is wrong at the sign behind its opening one" */
    private static void sixGroups() {
        match("(a)(b)(c)(d)(e)(f)", "abcdef", 0, "0-6 0-1 1-2 2-3 3-4 4-5 5-6");
        match("((((((a))))))", "a", 0, "0-1 0-1 0-1 0-1 0-1 0-1 0-1");
        match("(a)(b)(c)(d)(e)(f)\\6(?6)(?(6)\\1)", "abcdefffa", 0, "0-9 0-1 1-2 2-3 3-4 4-5 5-6");
        Regexloom x = Checks.with("(a)(b)(c)(d)(e)(f)", "abcdef");
        x.matchBySets(0, 0);
        CHECKS.due("six by sets", Checks.groups(x), "0-6 0-1 1-2 2-3 3-4 4-5 5-6");
        Checks.tell(x, 0, "(a)(b)(c)(d)(e)(f)g");
        Checks.text(x, "abcdefg");
        x.matchBySets(0, 0);
        CHECKS.due("six by sets, and a sign", Checks.groups(x), "0-7 0-1 1-2 2-3 3-4 4-5 5-6");
        Checks.text(x, "abcdef");
        CHECKS.due("tell six", Checks.tell(x, 1, "(a)(b)(c)(d)(e)(f)"), 6);
        CHECKS.due("tell five", Checks.tell(x, 1, "(a)(b)(c)(d)(e)(?:f)"), 5);
        fault("((((((a))))))", -1);
        fault("()()()()()()()", 13);
        fault("()()()()()()(", 13);
        fault("()()()()()()(a", 13);
        fault("()()()()()()(?", 14);
        fault("()()()()()()(*", 14);
        fault("(((((((", 7);
        fault("(((((((a)))))))", 7);
        fault("((((((()))))))", 7);
        fault("a|(((((((", 9);
        fault("()()()()()()(?:)(?i:)(?|)(?>)", -1);
        fault("()()()()()()(?=)(?!)(?<=)(?<!)", -1);
        fault("()()()()()()(*C)(*P)(*S)(*T)(?R)", -1);
        fault("()()()()()()(?(6)a)(?6)\\6", -1);
        fault("()|()|()|()|()|()|()", 19);
        for (int digit : new int[] {0, 7, 8, 9}) {
            fault("()()()()()()\\" + digit, 13);
            fault("()()()()()()(?" + digit, 14);
            fault("()()()()()()(?(" + digit, 15);
        }
    }

    /** "numbers of groups begin again as at its beginning; behind it they go on from the most of a branch" */
    private static void resets() {
        fault("(?|()()()|()()())()()()", -1);
        fault("(?|()()()|()()())()()()()", 24);
        fault("(?|()()()|())()()()()", 20);
        fault("(?|()|()()())()()()()", 20);
        fault("(?|()|()()()|())()()()", -1);
        fault("(?|()|()()()|())()()()()", 23);
        fault("(?|()()()()()()|()()()()()())", -1);
        fault("(?|()()()()()()|()()()()()()()", 29);
        fault("()()()()()(?|()|()|())", -1);
        fault("()()()()()(?|()|()())", 19);
        fault("()()()()()()(?|a|b|(", 20);
        fault("()()()()()()(?|a|b|()", 20);
        fault("(?|()|()())\\2", -1);
        fault("(?|()|()())\\3", 14);
        match("(?|(a)|(b)(c))(d)", "ad", 0, "0-2 0-1 . 1-2");
        match("(?|(b)(c)|(a))(d)", "ad", 0, "0-2 0-1 . 1-2");
        match("(z)?(?|(a)|(b))(c)", "bc", 0, "0-2 . 0-1 1-2");
        match("(?|a|b)(c)", "bc", 0, "0-2 1-2");
        match("(?|(?|(a)|(b)(c))|(d))(e)", "de", 0, "0-2 0-1 . 1-2");
        match("(?|(a)|(b))(?|(c)|(d))", "bd", 0, "0-2 0-1 1-2");
        CHECKS.due("tell a reset of six", Checks.tell(new Regexloom(), 0, "(?|()()()()()()|a)"), 6);
        // "of several with one number a call means the first one"
        match("(?|(a)|(b))(?1)", "ba", 0, "0-2 0-1");
        match("(?|(a)|(b))(?1)", "bb", 0, "-1");
    }

    /** "(?i: ) no group, in which small letters and capitals are alike (in signs, classes and references)" */
    private static void alike() {
        String small = TEXT_SIGNS.substring(0, 26);
        String capitals = TEXT_SIGNS.substring(26, 52);
        for (char sign : TEXT_SIGNS.toCharArray()) {
            int letter = Math.max(small.indexOf(sign), capitals.indexOf(sign));
            String both = letter < 0 ? "" + sign : "" + small.charAt(letter) + capitals.charAt(letter);
            taking("(?i:" + sign + ")", both);
            taking("(?i:[" + sign + "])", both);
            taking(sign + "|x", sign == 'x' ? "x" : sign + "x");
        }
        taking("(?i:[a-c])", "abcABC");
        taking("(?i:[Y-Z])", "yzYZ");
        taking("(?i:[^b-zB-Y0-9])", "aA_ ");
        match("(a)(?i:\\1)", "aA", 0, "0-2 0-1");
        match("(a)\\1", "aA", 0, "-1");
        match("(?i:(a)\\1)", "zz", 0, "-1");
        match("(_)(?i:\\1)", "__", 0, "0-2 0-1");
        match("(?i:a)a", "Aa", 0, "0-2");
        match("(?i:a)a", "AA", 0, "-1");
        match("(?i:(?:(?:a)))", "A", 0, "0-1");
        // In all that is in it, and no farther.
        for (String sign : new String[] {"a", "[a]", "[a-b]"}) {
            for (String around : new String[] {"(%)", "(?:%)", "(?|%)", "(?|b|%)", "(?>%)", "(?=%).", ".(?<=%)", "b|%",
                "(?:%)*", "(?:%)?+", "(?:(?i:b)|%)"}) {
                String inner = around.replace("%", sign);
                CHECKS.due("(?i:" + inner, Checks.with("^(?i:" + inner + ")$", "A").match(0, 0), 1);
                CHECKS.due("(?:" + inner, Checks.with("^(?:" + inner + ")$", "A").match(0, 0), -1);
                CHECKS.due("behind (?i:", Checks.with("^(?i:a)(?:" + inner + ")$", "AA").match(0, 0), -1);
            }
            for (String around : new String[] {"(?!%).", ".(?<!%)"}) {
                String inner = around.replace("%", sign);
                CHECKS.due("(?i:" + inner, Checks.with("^(?i:" + inner + ")$", "A").match(0, 0), -1);
                CHECKS.due("(?:" + inner, Checks.with("^(?:" + inner + ")$", "A").match(0, 0), 1);
                CHECKS.due("behind (?i:", Checks.with("^(?i:a)(?:" + inner + ")$", "AA").match(0, 0), 2);
            }
        }
        match("()(?i:(?(1)a))", "A", 0, "0-1 0-0");
        match("(a)?(?i:(?(1)b|c))", "C", 0, "0-1");
        match("()(?(1)a)", "A", 0, "-1");
        match("(a)(?i:(?=\\1))A", "aA", 0, "0-2 0-1");
        match("(a)(?i:(?:\\1))", "aA", 0, "0-2 0-1");
        match("(a)(?i:(?>\\1)(?<=\\1)(?!b))", "aA", 0, "0-2 0-1");
        match("(a)(?i:b)\\1", "aBA", 0, "-1");
        match("(?i:[a-b]|(?:c))c", "Cc", 0, "0-2");
        match("(?i:[a-b]|(?:c))c", "CC", 0, "-1");
        // What a call tries is by the flags of where the group stands.
        match("(?i:(a))(?1)", "aA", 0, "0-2 0-1");
        match("(a)(?i:(?1))", "aA", 0, "-1");
        match("(?i:(?R)|b)|a", "A", 0, "-1");
        match("(?i:(a)(\\1))(?2)", "aAA", 0, "0-3 0-1 1-2");
        match("(a)(\\1)(?i:(?2))", "aaA", 0, "-1");
        fault("(?ia)", 3);
        fault("(?i)", 3);
    }

    /** "of its one or two branches the first one, if that group is set, otherwise the second one, or nothing" */
    private static void conditions() {
        match("(a)?(?(1)b|c)", "ab", 0, "0-2 0-1");
        match("(a)?(?(1)b|c)", "c", 0, "0-1");
        match("(a)?(?(1)b)", "c", 0, "0-0");
        match("(a)?(?(1)b|)", "c", 0, "0-0");
        match("(a)?(?(1)|b)", "a", 0, "0-1 0-1");
        match("(?(1)a|b)()", "a", 0, "-1");
        match("(?(1)a|b)()", "b", 0, "0-1 1-1");
        match("()(?(1)a*b+?|c)d", "aabd", 0, "0-4 0-0");
        match("()(?(1)a*|c)ab", "aab", 0, "0-3 0-0");
        match("(?(1)c|a*)ab()", "aab", 0, "0-3 3-3");
        trialsOf("()(?(1))", "", 0, 2);
        trialsOf("()(?(1)|a)", "", 0, 2);
        trialsOf("(?(1)a|)()", "", 0, 2);
        fault("()(?(1)a)", -1);
        fault("()(?(1)a|b)", -1);
        fault("()(?(1)a|b|)", 10);
        fault("()(?(1)||", 8);
        fault("()(?(1)(?:a|b|c)|d)", -1);
        fault("()(?(1)|(?:a|b|c))", -1);
        fault("(?(a", 3);
        fault("()(?(1a", 6);
    }

    /** "its length and 1, if a group that is referred to is not told" */
    private static void notTold() {
        for (int group = 1; group <= 6; group++) {
            String before = "()".repeat(group - 1);
            for (String one : new String[] {"\\" + group, "(?" + group + ")", "(?(" + group + ")a)"}) {
                fault(before + one, before.length() + one.length() + 1);
                fault(before + "()" + one, -1);
                fault(before + one + "()", -1);
                fault(before + "(" + one + ")", -1);
                fault(before + "(?:" + one + ")", before.length() + one.length() + 5);
                // Another fault comes first.
                fault(before + one + ")", before.length() + one.length());
                fault(before + one + "(", before.length() + one.length() + 1);
                fault(before + one + "*?+", before.length() + one.length() + 2);
            }
        }
        fault("(?R)", -1);
    }

    /** "its length, if it ends too early" */
    private static void tooEarly() {
        for (String whole : new String[] {"(a)", "(?:a)", "(?i:a)", "(?|a)", "(?=a)", "(?!a)", "(?<=a)", "(?<!a)",
            "(?>a)", "(?R)", "(*C)", "(*P)", "(*S)", "(*T)", "[a]", "[^a]", "[a-b]", "\\w", "\\."}) {
            for (int size = 1; size < whole.length(); size++) {
                fault(whole.substring(0, size), size);
            }
            fault(whole, -1);
        }
        for (String part : new String[] {"a{", "a{1", "a{1,", "a{1,2"}) {
            fault(part, part.length());
        }
        for (String part : new String[] {"()(?1", "()(?(", "()(?(1", "()(?(1)", "()(?(1)a", "()(?(1)a|", "(\\1"}) {
            fault(part, part.length());
        }
        fault("(?(1", 4);
        fault("((((((", 6);
    }

    // ---- matching by backing up

    private static void backingUp() {
        emptyTurns();
        possessive();
        looks();
        references();
        callsInOneAnother();
    }

    /**
     * "A turn that is not needed any more and takes no sign fails; one that is needed and takes none
     * lets all turns that are needed be done, and no further one is begun."
     */
    private static void emptyTurns() {
        match("()*", "a", 0, "0-0");
        match("()?", "a", 0, "0-0");
        match("(){0,9}", "a", 0, "0-0");
        match("()*?a", "a", 0, "0-1");
        match("()+", "a", 0, "0-0 0-0");
        match("(){9}", "a", 0, "0-0 0-0");
        match("(){1,}", "a", 0, "0-0 0-0");
        match("(|a){1,9}", "aa", 0, "0-0 0-0");
        match("(|a){2,9}$", "aa", 0, "0-2 1-2");
        match("(a|){9}", "aa", 0, "0-2 2-2");
        match("(a|)*", "aa", 0, "0-2 1-2");
        match("(a??)*?$", "aa", 0, "0-2 1-2");
        match("(|a)*", "aa", 0, "0-2 1-2");
        match("(|a)*?$", "aa", 0, "0-2 1-2");
        match("(|a)+?$", "aa", 0, "0-2 1-2");
        match("(|a)?", "aa", 0, "0-1 0-1");
        match("(a|)+", "aa", 0, "0-2 1-2");
        match("(a|)+$", "", 0, "0-0 0-0");
        match("(?:(a?)|(b))*c", "abc", 0, "0-3 0-1 1-2");
        match("((a?)+b?)*", "aba", 0, "0-3 2-3 2-3");
        match("((a*)*)*", "aa", 0, "0-2 0-2 0-2");
        match("((a*)+)+", "", 0, "0-0 0-0 0-0");
        match("((a*)+)+", "a", 0, "0-1 0-1 0-1");
        match("((a*)*)+", "", 0, "0-0 0-0");
        match("((a|)+?b|)+", "abb", 0, "0-3 2-3 2-2");
        ways("()*", "", 1);
        ways("()+", "", 1);
        ways("(|)*", "", 1);
        ways("(|)+", "", 2);
        ways("(|)?", "", 1);
        ways("(|)", "", 2);
        ways("(a|)*", "aa", 1);
        ways("(a|)+", "aa", 1);
        ways("(a?|)+", "", 2);
        ways("(|a|a)+", "a", 2);
        ways("((a?)*)*", "aa", 2);
        ways("((|)+)+", "", 2);
        ways("((|)*)+", "", 1);
        ways("((|)+|)+", "", 3);
        // A turn, its atom, and no more turns, though nine are needed; then what is behind.
        trialsOf("(?:){9}", "a", 0, 2);
        trialsOf("(?:){9}a", "a", 0, 3);
        trialsOf("(?:)*", "a", 0, 2);
        trialsOf("(?:)+", "a", 0, 2);
        trialsOf("(?:){1,9}", "a", 0, 2);
        trialsOf("(?:|a){2,}", "a", 0, 3);
    }

    /** "Possessive: the first way of all turns alone." */
    private static void possessive() {
        match("a*+a", "aaa", 0, "-1");
        match("a?+", "", 0, "0-0");
        // Of counts that are backed up into, the turns go on where they were.
        match("a{0,2}?(?:a{2}b)?c", "aac", 0, "0-3");
        match("a{0,2}(?:a{2}b)?c", "aac", 0, "0-3");
        match("(a?){1}b", "ab", 0, "0-2 0-1");
        match("(a?){1}?b", "b", 0, "0-1 0-0");
        match("(a??){1,1}b", "ab", 0, "0-2 0-1");
        match("a?+a", "a", 0, "-1");
        match("a{0,1}+b", "b", 0, "0-1");
        match("a{9}+a", row('a', 10), 0, "0-10");
        match("(?:a|ab){1}+c", "abc", 0, "-1");
        match("(?:ab|a){1}+c", "abc", 0, "0-3");
        match("(?:){9}+a", "a", 0, "0-1");
    }

    /** "tried from here on back to the place 0", "not by (?! and (?<!" */
    private static void looks() {
        match("(?<=^)", "a", 0, "0-0");
        match("(?<=^)a", "a", 1, "-1");
        match("(?<=^" + row('a', 20) + ")$", row('a', 20), 20, "20-20");
        match("(?<=(^a*))$", row('a', 20), 20, "20-20 0-20");
        match("(?<=(a*))", "aa", 2, "2-2 2-2");
        match("(?<=a)", "a", 0, "-1");
        match("(?<!a)", "a", 0, "0-0");
        match("(?<!a)", "a", 1, "-1");
        match("(?=a)", "a", 1, "-1");
        match("(?!a)", "a", 1, "1-1");
        match("(?=(a))(?<=())", "a", 0, "0-0 0-1 0-0");
        match("(?!(a)b)(?<!(a))a", "aa", 0, "0-1");
        match("(?!(?!(a)))a", "a", 0, "0-1");
        trialsOf("(?<=b)", row('a', 20), 20, 1 + 2 * 21);
        trialsOf("(?<=b)", row('a', 20), 0, 3);
        trialsOf("(?<!)", "a", 1, 2);
        // "Atomic: its first way alone."
        match("(?>a|ab)c", "abc", 0, "-1");
        match("(?>ab|a)c", "abc", 0, "0-3");
        match("(?>ab|a)bc", "abc", 0, "-1");
        match("(?>a*)a", "aaa", 0, "-1");
        match("(?>)a", "a", 0, "0-1");
        match("(?=(a|ab))\\1c", "abc", 0, "-1");
        match("(?=(ab|a))\\1c", "abc", 0, "0-3 0-2");
        match("(?<=(b|ab))(?<=^\\1)", "ab", 2, "-1");
        match("(?<=(a|ab))", "ab", 2, "2-2 0-2");
        match("(?<=^(a|ab|abc))c", "abc", 2, "2-3 0-2");
        match("(?<!^(?:a|ab|abc))c", "abc", 2, "-1");
    }

    /** "it fails, if that is not set" */
    private static void references() {
        match("\\1()", "", 0, "-1");
        match("(a)?\\1", "b", 0, "-1");
        match("(a\\1)", "aa", 0, "-1");
        match("()\\1", "", 0, "0-0 0-0");
        match("(a*)\\1$", row('a', 20), 0, "0-20 0-10");
        match("(aa)\\1", "aaa", 0, "-1");
        match("(a)\\1", "a", 0, "-1");
        match("(?:(a)|b)*\\1", "abb", 0, "-1");
        match("(?:(a)|b)*\\1", "aba", 0, "0-3 0-1");
    }

    /** "Of calls at most 5 can be in one another, a further one fails." */
    private static void callsInOneAnother() {
        match("a(?R)?b", "aaaaaabbbbbb", 0, "0-12");
        match("a(?R)?b", "aaaaaaabbbbbbb", 0, "-1");
        match("(a(?1)?b)", "aaaaaabbbbbb", 0, "0-12 0-12");
        match("(a(?1)?b)", "aaaaaaabbbbbbb", 0, "-1");
        match("(a(?R)?b)|c(?1)", "caaaaabbbbb", 0, "0-11");
        match("(a(?R)?b)|c(?1)", "caaaaaabbbbbb", 0, "-1");
        match("a(?:(?=(?R))a|b)", "aaaaaab", 0, "0-2");
        match("(?:a(?=(?R))|b)", "aaaaab", 0, "0-1");
        match("(?:a(?=(?R))|b)", "aaaaaab", 0, "-1");
        // The sixth call fails, so that its (?! holds; of those around every other one does.
        match("(?:a(?!(?R))|b)", "aaaaaab", 0, "-1");
        match("(?:a(?!(?R))|b)", "aaaaaab", 2, "2-3");
        match("(?>a(?R)?+)", "aaaaaaa", 0, "0-6");
        // Five, and a call behind them: six, one behind another, are not in one another.
        match("(a)(?1)(?1)(?1)(?1)(?1)(?1)(?1)", row('a', 8), 0, "0-8 0-1");
        match("(a)(?1){9}", row('a', 10), 0, "0-10 0-1");
        match("(?R)", "a", 0, "-1");
        match("(?R)|a", "a", 0, "0-1");
        // What was set ahead of a call is set in it, and as it was behind it.
        match("(a)(\\1b)(?2)", "aabab", 0, "0-5 0-1 1-3");
        match("(?:(a)|b)+(?:c|(?(1)d|e)f)", "bef", 0, "0-3");
        match("(?:(a)|(b))((?(1)c|d))(?3)", "acc", 0, "0-3 0-1 . 1-2");
        match("(?:(a)|(b))((?(1)c|d))(?3)", "bdd", 0, "0-3 . 0-1 1-2");
        match("((a)|(b))(?1)(?(3)c|d)", "abd", 0, "0-3 0-1 0-1");
        match("((a)|(b))(?1)(?(3)c|d)", "bac", 0, "0-3 0-1 . 0-1");
        match("(a|b(?1))(?1)", "bba", 0, "-1");
        match("(a|b(?1))(?1)", "bbaba", 0, "0-5 0-3");
        // Each of the six begins its atom, the sixth one fails.
        trialsOf("(?R)", "a", 0, 6);
        trialsOf("(?R)?", "a", 0, 12);
        // Besides, the sixth one's a, and for each of the others an a behind the call and one without it.
        trialsOf("(?R)?a", "a", 0, 12 + 1 + 2 * 5);
    }

    // ---- cuts

    private static void cuts() {
        cutEnds();
        skips();
        branchCuts();
        heldCuts();
    }

    /** "(*C): there is no match, from no place (in searching on no further one)", "(*P): .. where it began" */
    private static void cutEnds() {
        find("a(*C)b", "acab", 0, -1);
        find("a(*P)b", "acab", 0, 2);
        find("(*C)$|", "a", 0, -1);
        find("(*P)$", "a", 0, 1);
        findAll("ab|b(*C)c", "ababbab", "0-2 2-4 ");
        findAll("ab|b(*P)c", "ababbab", "0-2 2-4 5-7 ");
        replaced("ab|b(*C)c", "ababbab", "-", "--bab");
        // A cut is no matter to a later call.
        Regexloom x = Checks.with("a(*C)b", "aac");
        Checks.tell(x, 1, "c");
        for (String cut : new String[] {"C", "P", "S", "T"}) {
            Checks.tell(x, 0, "aa(*" + cut + ")b");
            CHECKS.due("find with *" + cut, x.find(0, 0), -1);
            CHECKS.due("find behind *" + cut, x.find(1, 0), 2);
            CHECKS.due("match with *" + cut, x.match(0, 0), -1);
            CHECKS.due("findAll behind *" + cut, x.findAll(1), 1);
            CHECKS.due("which behind *" + cut, x.which(2), 2);
        }
        // When all is matched, a cut is no matter.
        findAll("a(*C)", "aba", "0-1 2-3 ");
        match("(*C)", "", 0, "0-0");
        match("a(*C)|b", "b", 0, "0-1");
    }

    /** "(*S): likewise, and when searching the next place to begin is that of the cut, if it is behind .." */
    private static void skips() {
        match("a(*S)b|a", "aa", 0, "-1");
        find("(*S)b|a", "aa", 0, -1);
        find("(?=a(*S)b)c|aab", "aaab", 0, 1);
        find("a(*S)b|\\w", "aaac", 0, 3);
        find("aa(*S)b|\\w", "aaac", 0, 2);
        find("aaa(*S)b|\\w", "aaac", 0, 3);
        find("aaac(*S)b|$", "aaac", 0, 4);
        find("aaac(*S)b|\\w", "aaac", 0, -1);
        trialsOfFind("(*S)b", "aaa", 8);
        trialsOfFind("a(*S)b", "aaa", 10);
        trialsOfFind("aa(*S)b", "aaa", 4 + 2 + 1);
        trialsOfFind("aaa(*S)b", "aaa", 5 + 1);
        trialsOfFind("aaa(*P)b", "aaa", 5 + 3 + 2 + 1);
    }

    private static void trialsOfFind(String pattern, String text, int due) {
        Regexloom x = Checks.with(pattern, text);
        CHECKS.due("find " + pattern + " in " + text, x.find(0, 0), -1);
        CHECKS.due("trials to find " + pattern + " in " + text, x.trials(), due);
    }

    /** "(*T): the branch of the innermost of several branches .. fails", "without several branches like (*P)" */
    private static void branchCuts() {
        match("a(*T)b|ac", "ac", 0, "0-2");
        match("(a(*T)b|a)c|ac", "ac", 0, "0-2 0-1");
        match("(?:(?:a+(*T)b)|a)ac|a", "aac", 0, "0-3");
        match("(?:a+(*T)b|a)", "aac", 0, "0-1");
        match("a+(*T)b", "aac", 0, "-1");
        match("a+(*T)ab|a", "aab", 0, "0-1");
        match("a+(*T)ab|ac", "aab", 0, "-1");
        match("a+(?:(*T)ab)|a", "aab", 0, "0-1");
        match("a+(?:(*T)ab|)ab|a", "aab", 0, "0-3");
        find("a+(*T)b", "aacab", 0, 3);
        find("aa*(*T)b", "aaab", 0, 0);
        match("()(?:a(?(1)(*T)b|c)|ad)", "ad", 0, "0-2 0-0");
        match("()a(?(1)(*T)b|c)|ad", "ad", 0, "0-2");
        match("()a*(?(1)(*T)b|a)", "aa", 0, "-1");
        match("()\\w*(?(1)(*T)b|c)", "ab", 0, "-1");
        match("()(?:\\w*(?(1)(*T)b|c)|a)", "ab", 0, "0-1 0-0");
        match("()(?:\\w*(?(1)(?:(*T)b|b)|c)|a)", "ab", 0, "0-2 0-0");
        // Without several branches it skips nothing, and does not end the search.
        find("aa(*T)b", "aaab", 0, 1);
        find("a(*T)b", "acab", 0, 2);
        findAll("aa(*T)b", "aaabaab", "1-4 4-7 ");
        match("a(*T)b|a(*T)c", "ad", 0, "-1");
        find("a(*T)b|a(*T)c", "adac", 0, 2);
    }

    /** "In looks, atomic groups, possessive counts and calls all of them let just that fail (also a ..)" */
    private static void heldCuts() {
        for (String cut : new String[] {"C", "P", "S", "T"}) {
            match("(?=a(*" + cut + ")b)|a", "a", 0, "0-1");
            match("(?!a(*" + cut + ")b)a", "a", 0, "0-1");
            match("(?<=(*" + cut + ")b)|a", "a", 0, "0-1");
            match("(?<!(*" + cut + ")b)a", "a", 0, "0-1");
            match("(?>a(*" + cut + ")b)|a", "a", 0, "0-1");
            match("(?:a(*" + cut + ")b)?+a", "a", 0, "-1");
            match("(?:a(*" + cut + ")b)*+|a", "a", 0, "0-1");
            match("(?:a(*" + cut + ")b){0,1}+|a", "a", 0, "0-1");
            match("(?:a(*" + cut + ")b)?+|ac", "ac", 0, "0-2");
            match("(?:(?1)|a)|(a(*" + cut + ")b)", "a", 0, "0-1");
            match("(?:a(*" + cut + ")b)?a|a", "a", 0, cut.equals("T") ? "0-1" : "-1");
            // Matched whole, and left: it is not backed up over.
            match("(?>a(*" + cut + "))b|a", "a", 0, "0-1");
            match("(?=a(*" + cut + "))b|a", "a", 0, "0-1");
            match("(?:a(*" + cut + "))?+b|a", "a", 0, "0-1");
        }
        // A cut behind what would hold it is not held.
        for (String ahead : new String[] {"(?=a)", "(?!b)", "(?<=)", "(?<!b)", "(?>)", "b?+", "()(?1)"}) {
            for (String cut : new String[] {"C", "P", "S"}) {
                match("(?:" + ahead + "(*" + cut + ")b)?|a", "a", 0, "-1");
                match(ahead + "(*" + cut + ")b|a", "a", 0, "-1");
            }
            match(ahead + "(*T)b|a", "a", 0, "0-1");
        }
        // (*T) by branches within it.
        match("(?=a(*T)b|a)a", "a", 0, "0-1");
        match("(?=a(*P)b|a)a", "a", 0, "-1");
        match("(?!a(*T)b|a)a", "a", 0, "-1");
        match("(?!a(*P)b|a)a", "a", 0, "0-1");
        match("(?<=a(*T)b|a)$", "a", 1, "1-1");
        match("(?>a(*T)b|a)", "a", 0, "0-1");
        match("(?>a(*P)b|a)", "a", 0, "-1");
        match("(?:a(*T)b|a)?+", "a", 0, "0-1");
        match("(?:a(*P)b|a)?+", "a", 0, "-1");
        match("(?1)c|(a(*T)b|a)", "ac", 0, "0-2");
        match("(?1)c|(a(*P)b|a)", "ac", 0, "-1");
    }

    // ---- trials

    private static void trials() {
        whatATrialIs();
        budgetOf1();
        budgetOf250();
        budgetsBeside();
        budgetOfAll();
        eachItsOwnBudget();
    }

    /** "A trial is each time that one of these is begun: an atom, whichever, a branch of several (not of .." */
    private static void whatATrialIs() {
        trialsOf("", "", 0, 0);
        trialsOf("a", "", 0, 1);
        for (String atom : new String[] {"a", ".", "\\w", "[a]", "^", "\\b", "(?:)", "()", "(?i:)", "(?|)",
            "(?>)", "(?=)", "(*C)", "(*P)", "(*S)", "(*T)"}) {
            trialsOf(atom, "a", 0, 1);
        }
        trialsOf("$", "", 0, 1);
        trialsOf("\\B", "", 0, 1);
        trialsOf("\\d", "1", 0, 1);
        trialsOf("(?!)", "", 0, 1);
        trialsOf("(?<=)", "", 0, 2);
        trialsOf("()\\1", "", 0, 2);
        trialsOf("\\1()", "", 0, 1);
        trialsOf("(a)?\\1", "b", 0, 4);
        trialsOf("()(?1)", "", 0, 2);
        trialsOf("()(?(1)a|b)", "a", 0, 3);
        trialsOf("()?(?(1)a|b)", "b", 0, 4);
        trialsOf("()?(?(1)a)", "b", 0, 3);
        trialsOf("a|b", "a", 0, 2);
        trialsOf("a|b", "b", 0, 4);
        trialsOf("a|b", "c", 0, 4);
        trialsOf("||", "c", 0, 1);
        trialsOf("(a)", "a", 0, 2);
        trialsOf("(a|)", "b", 0, 4);
        trialsOf("a?", "a", 0, 2);
        trialsOf("a??", "a", 0, 0);
        trialsOf("a{2}", "aa", 0, 4);
        trialsOf("a*", "aa", 0, 6);
        trialsOf("a*+", "aa", 0, 6);
    }

    /** "a budget of 1": a single trial can be begun. */
    private static void budgetOf1() {
        Regexloom x = Checks.with("a", "ab");
        x.setBudget(1);
        CHECKS.due("one trial is enough", matched(x, 0), "0-1");
        CHECKS.due("its trials", x.trials(), 1);
        CHECKS.due("one that fails", matched(x, 1), "-1");
        CHECKS.due("its trials", x.trials(), 1);
        Checks.tell(x, 0, "ab");
        CHECKS.due("a second one", matched(x, 0), "-2");
        CHECKS.due("with GIVEN_UP the budget", x.trials(), 1);
        CHECKS.due("none when the first one fails", matched(x, 1), "-1");
        Checks.tell(x, 0, "b");
        CHECKS.due("a second place", x.find(0, 0), -2);
        CHECKS.due("with GIVEN_UP the budget", x.trials(), 1);
        CHECKS.due("the first place", x.find(0, 1), 1);
        Checks.tell(x, 0, "");
        CHECKS.due("no trial at all", matched(x, 2), "2-2");
        CHECKS.due("its trials", x.trials(), 0);
        x.setBudget(2);
        Checks.tell(x, 0, "ab");
        CHECKS.due("two of a budget of 2", matched(x, 0), "0-2");
        CHECKS.due("its trials", x.trials(), 2);
    }

    // Eleven branches of which the last one matches: 23 trials, and two more for each turn ahead of it.
    private static final String OF_248 = "a*?(?:b|c|d|e|f|g|h|i|j|k|l)";
    // Twelve branches that fail, or of which the last one matches: 25 trials at a place.
    private static final String OF_25 = "(?:b|c|d|e|f|g|h|i|j|k|l|m)";

    /** "a budget of 1 to 250 trials, 250 at first; if a further one is to be begun, all is given up" */
    private static void budgetOf250() {
        Regexloom x = Checks.with(OF_248 + "$", "aaaaaaaaal");
        CHECKS.due("match with 249", matched(x, 0), "0-10");
        CHECKS.due("its trials", x.trials(), 249);
        Checks.tell(x, 0, OF_248 + "$$");
        CHECKS.due("match with 250", matched(x, 0), "0-10");
        CHECKS.due("its trials", x.trials(), 250);
        CHECKS.due("setBudget 249", x.setBudget(249), 250);
        CHECKS.due("match with 250 of 249", matched(x, 0), "-2");
        CHECKS.due("its trials", x.trials(), 249);
        CHECKS.due("its groups", Checks.groups(x), ". . . . . . .");
        CHECKS.due("setBudget 250", x.setBudget(250), 249);
        CHECKS.due("match with 250 again", matched(x, 0), "0-10");
        Checks.tell(x, 0, OF_248 + "$$$");
        CHECKS.due("match with 251", matched(x, 0), "-2");
        CHECKS.due("its trials", x.trials(), 250);
        CHECKS.due("its groups", Checks.groups(x), ". . . . . . .");
        find(OF_25, "aaaaaaaaam", 0, 9);
        find(OF_25, "aaaaaaaaa", 0, -1);
        find(OF_25, "aaaaaaaaaa", 0, -2);
        find(OF_25 + "$", "aaaaaaaaam", 0, -2);
        find(OF_25 + "$", "aaaaaaaaam", 1, 9);
        Checks.tell(x, 0, OF_25);
        Checks.text(x, "aaaaaaaaam");
        x.find(0, 0);
        CHECKS.due("trials of all places", x.trials(), 250);
        Checks.text(x, "aaaaaaaaaa");
        x.find(0, 0);
        CHECKS.due("trials of a find that is given up", x.trials(), 250);
    }

    /** "`trials`: 1 to 250" */
    private static void budgetsBeside() {
        Regexloom x = new Regexloom();
        CHECKS.due("250 at first", x.setBudget(1), 250);
        for (int wrong : new int[] {0, -1, 251}) {
            CHECKS.throwing("setBudget " + wrong, ARGUMENT, () -> x.setBudget(wrong));
        }
        for (int wrong : FAR_OFF) {
            CHECKS.throwing("setBudget " + wrong, ARGUMENT, () -> x.setBudget(wrong));
        }
        CHECKS.due("1 stays", x.setBudget(2), 1);
        CHECKS.due("2 was", x.setBudget(249), 2);
        CHECKS.due("249 was", x.setBudget(250), 249);
        CHECKS.due("250 was", x.setBudget(250), 250);
    }

    /** "Each call of .. findAll() and replace() .. has a budget": one for all of its matches. */
    private static void budgetOfAll() {
        findAll(OF_25, "maaaaaaaa", "0-1 ");
        replaced(OF_25, "maaaaaaaa", "x", "xaaaaaaaa");
        findAll(OF_25 + "$", "aaaaaaaam", "8-9 ");
        Regexloom x = Checks.with(OF_25 + "$", "aaaaaaaam");
        CHECKS.throwing("replace with 251", STATE, () -> x.replace(0));
        Regexloom y = Checks.with(OF_25, "aaaaaaaaam");
        CHECKS.due("findAll up to where it is given up", all(y), "9-10 ");
        CHECKS.throwing("replace with 275", STATE, () -> y.replace(0));
        Regexloom z = Checks.with("a", "aaaa");
        for (int budget = 1; budget <= 6; budget++) {
            z.setBudget(budget);
            CHECKS.due("findAll with " + budget, z.findAll(0), Math.min(budget, 4));
            CHECKS.due("replace with " + budget, Checks.answer(() -> z.replace(0)), budget < 5 ? STATE : "0");
        }
        CHECKS.due("trials of neither", z.trials(), 0);
    }

    /** "and of which() each pattern"; "those that are not told, or given up, do not" */
    private static void eachItsOwnBudget() {
        Regexloom x = new Regexloom();
        Checks.text(x, "aaaaaaaaal");
        for (int k = 0; k < 4; k++) {
            Checks.tell(x, k, OF_248 + "$$");
        }
        CHECKS.due("four with 250 each", x.which(0), 15);
        Checks.tell(x, 1, OF_248 + "$$$");
        CHECKS.due("one with 251", x.which(0), 13);
        x.setBudget(249);
        CHECKS.due("all given up", x.which(0), 0);
        Checks.tell(x, 3, "");
        x.setBudget(1);
        CHECKS.due("one without a trial", x.which(0), 8);
        CHECKS.due("trials of none of them", x.trials(), 0);
    }

    // ---- the other ways

    private static void otherWays() {
        weightOf24();
        emptyAtoms();
        notPlain();
        noBudgetBySets();
        waysUpTo99();
        longestAndCanStill();
    }

    /** "a weight of at most 24", "times m of a count {n,m}, or n of {n} and {n,} (1 for {0,})" */
    private static void weightOf24() {
        plain(row('a', 24), true, true);
        plain(row('a', 25), false, false);
        plain(row('a', 23) + "^", true, false);
        plain(row('a', 24) + "^$\\b", true, false);
        plain(row('a', 25) + "^", false, false);
        plain("a{9}b{9}c{6}", true, true);
        plain("a{9}b{9}c{7}", false, false);
        plain("a{9,}b{9,}c{6,}", true, true);
        plain("a{9,}b{9,}c{7,}", false, false);
        plain("a{0,9}b{1,9}c{6,6}", true, true);
        plain("a{0,9}b{1,9}c{6,7}", false, false);
        plain("(?:(?:ab){3}){4}", true, true);
        plain("(?:(?:ab){3}){4}a", false, false);
        plain("(?:(?:ab){3}){4}(?:)()$", true, false);
        plain("(?:ab|cd|ef|gh){1,3}", true, true);
        plain("(?:ab|cd|ef|gh){1,3}i", false, false);
        plain("a{9}b{9}c{5}d{0,}", true, true);
        plain("a{9}b{9}c{5}d{0,}e{0,}", false, false);
        plain("a{9}b{9}c{5}d{1,}", true, true);
        plain("a{9}b{9}c{5}d*", true, true);
        plain("a{9}b{9}c{5}d+", true, true);
        plain("a{9}b{9}c{5}d?", true, true);
        plain("a{9}b{9}c{6}d*", false, false);
        plain("a{9}b{9}c{6}d+", false, false);
        plain("a{9}b{9}c{6}d?", false, false);
        plain(".{9}\\w{9}\\.{3}\\d{2}[a-z]", true, true);
        plain(".{9}\\w{9}\\.{3}\\d{2}[a-z]a", false, false);
    }

    /** "no {n,m} or {n} with n or m above 1, or {n,} with n above 1, behind an atom that could match without" */
    private static void emptyAtoms() {
        for (String atom : new String[] {"()", "(a?)", "(a*)", "(a{0,2})", "(a|)", "(|a)", "(^)", "(^|a)", "(?:$\\b)",
            "(?:\\B)", "(?:(?:a?)b*)", "(?:a|b??)", "(?|a|b?)", "(?i:a?)", "((a?){1})"}) {
            boolean isRegular = !atom.matches(".*[$^\\\\].*");
            for (String count : new String[] {"", "*", "+", "?", "{1}", "{1,}", "{0,}", "{0,1}", "{1,1}", "*?", "{1}?"}) {
                plain(atom + count, true, isRegular);
            }
            for (String count : new String[] {"{2}", "{9}", "{0,2}", "{1,2}", "{2,2}", "{2,}", "{2}?"}) {
                plain(atom + count, false, false);
            }
        }
        for (String atom : new String[] {"a", ".", "(a)", "(?:a|b)", "(a?b)", "(?:a{1})", "(?:a+)", "(a?b*\\.)"}) {
            for (String count : new String[] {"{2}", "{0,2}", "{1,2}", "{2,}", "{2,3}?"}) {
                plain(atom + count, true, true);
            }
        }
        plain("(?:^a){2}", true, false);
        plain("(?:a$){2}", true, false);
    }

    /** "if it has no possessive count, no look, no atomic group, no reference, call, condition and cut" */
    private static void notPlain() {
        for (String pattern : new String[] {"a?+", "a{1}+", "(?=)", "(?!)", "(?<=)", "(?<!)", "(?>)", "()\\1",
            "()(?1)", "(?R)", "()(?(1))", "(*C)", "(*P)", "(*S)", "(*T)", "|(?:(?=))", "(?:(?:a?+)?)?"}) {
            plain(pattern, false, false);
        }
        for (String pattern : new String[] {"^", "$", "\\b", "\\B", "a|(?:(?:^))?", "\\Ba"}) {
            plain(pattern, true, false);
        }
        plain("", true, true);
        plain("|", true, true);
    }

    /** "By sets of states the match of a plain pattern is found with no budget" */
    private static void noBudgetBySets() {
        Regexloom x = Checks.with("((a|b)*?)(c?)$", row('a', 20));
        x.setBudget(1);
        CHECKS.due("match", x.match(0, 0), -2);
        CHECKS.due("trials", x.trials(), 1);
        CHECKS.due("matchBySets", x.matchBySets(0, 0), 20);
        CHECKS.due("groups", Checks.groups(x), "0-20 0-20 19-20 20-20 . . .");
        CHECKS.due("trials stay", x.trials(), 1);
        CHECKS.due("match", x.match(0, 0), -2);
        CHECKS.due("groups of none", Checks.groups(x), ". . . . . . .");
        match("(?:a|a)*b", "aaaaaaa", 0, "-2");
        CHECKS.due("without a budget", Checks.with("(?:a|a)*b", row('a', 20)).matchBySets(0, 0), -1);
        CHECKS.due("longest", Checks.with("(?:a|a)*b?", row('a', 20)).longest(0, 0), 20);
    }

    /** "counted up to 99" */
    private static void waysUpTo99() {
        ways("(?:|)(?:||||||)(?:||||||)", "", 98);
        ways("(?:||||||||)(?:||||||||||)", "", 99);
        ways("(?:|||||||||)(?:|||||||||)", "", 99);
        ways("(?:||||||||||)(?:||||||||||)", "", 99);
        // Of n signs a*a*a* has (n + 1)(n + 2) / 2 ways.
        ways("a*a*a*", row('a', 12), 91);
        ways("a*a*a*", row('a', 13), 99);
        ways("a*a*a*", row('a', 20), 99);
        ways("a*?a*a*", row('a', 12), 91);
        ways("(?:a|a)*", "aaaaaa", 64);
        ways("(?:a|a)*", "aaaaaaa", 99);
        ways("(?:a|a)*", row('a', 20), 99);
        ways("(?:a|a)*b", row('a', 20), 0);
        ways("a", "a", 1);
        ways("a", "b", 0);
        ways("||", "", 3);
        ways(row('|', 32), "", 33);
        ways("(?:||||||)(?:||||||)", "", 49);
        ways("(?:||||||)(?:||||||)|", "", 50);
        ways("(?:||||||)(?:|||||||||||||)|", "", 99);
        ways("(?:||||||)(?:|||||||||||||)||", "", 99);
        Regexloom x = Checks.with("a*", "aa");
        CHECKS.due("ways from behind", x.ways(0, 2, 1), 0);
        CHECKS.due("ways from here to here", x.ways(0, 2, 2), 1);
        Checks.tell(x, 1, "a");
        CHECKS.due("ways of a sign", x.ways(1, 0, 1), 1);
        CHECKS.due("ways of a sign from here to here", x.ways(1, 1, 1), 0);
        CHECKS.due("ways of all", x.ways(0, 0, 2), 1);
    }

    /** "the greatest place to which it matches in some way; NONE", "with signs behind it or none" */
    private static void longestAndCanStill() {
        Regexloom x = Checks.with("a{2,4}?", row('a', 20));
        CHECKS.due("longest at 0", x.longest(0, 0), 4);
        CHECKS.due("longest at 16", x.longest(0, 16), 20);
        CHECKS.due("longest at 17", x.longest(0, 17), 20);
        CHECKS.due("longest at 18", x.longest(0, 18), 20);
        CHECKS.due("longest at 19", x.longest(0, 19), -1);
        CHECKS.due("longest at 20", x.longest(0, 20), -1);
        CHECKS.due("canStill at 15", x.canStill(0, 15), false);
        CHECKS.due("canStill at 16", x.canStill(0, 16), true);
        CHECKS.due("canStill at 19", x.canStill(0, 19), true);
        CHECKS.due("canStill at 20", x.canStill(0, 20), true);
        Regexloom y = Checks.with("(ab){2}(cd?){0,1}", "");
        String all = "ababcd";
        for (int size = 0; size <= all.length(); size++) {
            Checks.text(y, all.substring(0, size));
            CHECKS.due("canStill " + size, y.canStill(0, 0), true);
            CHECKS.due("longest " + size, y.longest(0, 0), size < 4 ? -1 : size);
            Checks.text(y, all.substring(0, size) + " ");
            CHECKS.due("canStill " + size + " and a blank", y.canStill(0, 0), false);
            CHECKS.due("longest " + size + " and a blank", y.longest(0, 0), size < 4 ? -1 : size);
        }
        // In the midst of a turn, behind which others can come.
        canStill("(ab)*", "a", true);
        canStill("(ab)*", "abab", true);
        canStill("(ab)*", "ababa", true);
        canStill("(ab)*", "abb", false);
        canStill("(ab)+?", "aba", true);
        canStill("(?:a(?:bc)*d)*", "abcb", true);
        canStill("(?:a(?:bc)*d)*", "abcdabc", true);
        canStill("(?:a(?:b(?:cd)*e)*f)+", "abcdc", true);
        canStill("(?:a(?:b(?:cd)*e)*f)+", "abcdd", false);
        canStill("((a?b?)*c)*", "abbac", true);
        canStill("((a?b?)*c)*", "abba", true);
        canStill("(a{2,3}){2,}", "aaaaa", true);
        canStill("(ab){3}", "aba", true);
        canStill("(ab){3}", "abababa", false);
        // Signs that no text has cannot come; but they need not, if there is another way.
        canStill("\\.", "", false);
        canStill("\\.|a", "", true);
        canStill("a(?:\\.|\\*b)", "a", false);
        canStill("a(?:\\.|b\\*|[^a-zA-Z0-9_ ])", "a", false);
        canStill("a(?:\\.|b\\*|[^a-zA-Z0-9_])", "a", true);
        canStill("a(b\\.)*", "ab", false);
        canStill("a(b\\.)*", "a", true);
        canStill("a(b\\.?)*c", "ab", true);
        canStill("(?:a|b)(c)*\\.", "ac", false);
        canStill("(?:a|b)+(c)*(\\.)?", "ac", true);
        canStill("((a\\.)?b)+", "", true);
        canStill("((a\\.)?b)+", "a", false);
        canStill("((a\\.)+b)+", "", false);
        canStill("(\\.?)+b", "", true);
        canStill("((\\.?a)*b)*c", "aab", true);
    }

    private static void canStill(String pattern, String text, boolean due) {
        CHECKS.due("canStill " + pattern + " in '" + text + "'", Checks.with(pattern, text).canStill(0, 0), due);
    }

    // ---- searching, replacing

    private static void replacing() {
        searchingToTheEnd();
        searchingOn();
        templates();
        outOf100();
    }

    /** "To search from a place is to try there, then at the next place, and so on to the end; the first match." */
    private static void searchingToTheEnd() {
        find("$", row('a', 20), 0, 20);
        find("$", row('a', 20), 20, 20);
        find("a", row('a', 20), 20, -1);
        find("b", row('a', 19) + "b", 0, 19);
        find("b", "ba", 1, -1);
        find("b", "ab", 1, 1);
        find("", "ab", 0, 0);
        find("^", "ab", 1, -1);
    }

    /** "each from the end of the one before, or, if that was empty, from one place farther, as long as there .." */
    private static void searchingOn() {
        StringBuilder due = new StringBuilder();
        StringBuilder signs = new StringBuilder();
        for (int k = 0; k <= 20; k++) {
            due.append(k).append('-').append(k).append(' ');
            if (k < 20) {
                signs.append(k).append('-').append(k + 1).append(' ');
            }
        }
        findAll("", row('a', 20), due.toString());
        findAll("a", row('a', 20), signs.toString());
        findAll("a?", row('a', 20), signs + "20-20 ");
        findAll("a??", "aa", "0-0 1-1 2-2 ");
        findAll("a*", "aab", "0-2 2-2 3-3 ");
        findAll("$", "a", "1-1 ");
        findAll("aa", "aaa", "0-2 ");
        findAll("", "", "0-0 ");
    }

    /** "a group that is not set for nothing; other signs, also these three without a digit behind them, .." */
    private static void templates() {
        replaced("(a)(b)?", "a", "$1$2.", "a.");
        replaced("(a)(b)?", "a", "^2-2^1-1", "Aa");
        replaced("(a)(b)(c)(d)(e)(f)", "abcdef", "$6$5$4$3$2$1$0", "fedcbaabcdef");
        replaced("a", "a", "$1$2$3$4$5$6$7$8$9^7-9", "");
        replaced("a", "a", "$", "$");
        replaced("a", "a", "^", "^");
        replaced("a", "a", "-", "-");
        replaced("a", "a", "$$^^--$", "$$^^--$");
        replaced("a", "a", "$$0", "$a");
        replaced("a", "a", "-^0", "-A");
        replaced("a", "a", "$a^b-c", "$a^b-c");
        replaced("a", "a", "$01", "a1");
        replaced("a", "a", "0$", "0$");
        replaced("[^b]+", "azAZ09_ ", "^0", "AZAZ09_ ");
        replaced("[^b]+", "azAZ09_ ", "-0", "azaz09_ ");
        replaced("a", "a", ".*+?{}()[]|\\,:=!<>#", ".*+?{}()[]|\\,:=!<>#");
        replaced("()", "ab", "$1.", ".a.b.");
        // What the draft had before is not behind its last sign.
        Regexloom x = Checks.with("a", "a");
        for (String sign : new String[] {"$", "^", "-"}) {
            Checks.draw(x, "00000");
            x.clear();
            Checks.draw(x, "b" + sign);
            CHECKS.due("a last " + sign, x.replace(0), 2);
            CHECKS.due("a last " + sign, Checks.out(x, 2), "b" + sign);
        }
        replaced("", row('a', 20), "#", "#" + "a#".repeat(20));
        replaced("a", row('a', 20), "#", row('#', 20));
        replaced("a?", row('a', 20), "$0#", "a#".repeat(20) + "#");
    }

    /** "The out has at most 100 signs." */
    private static void outOf100() {
        CHECKS.throwing("a sign of the empty out", BOUNDS, () -> new Regexloom().outSign(0));
        replaced("a", row('a', 20), "vwxyz", "vwxyz".repeat(20));
        Regexloom x = Checks.with("a|(b)", row('a', 20));
        Checks.draw(x, "vwxy$1$0");
        CHECKS.due("100 signs", x.replace(0), 100);
        CHECKS.due("the first one", x.outSign(0), 'v');
        CHECKS.due("the last one", x.outSign(99), 'a');
        CHECKS.throwing("one ahead of it", BOUNDS, () -> x.outSign(-1));
        CHECKS.throwing("one behind it", BOUNDS, () -> x.outSign(100));
        for (int wrong : FAR_OFF) {
            CHECKS.throwing("outSign " + wrong, BOUNDS, () -> x.outSign(wrong));
        }
        Checks.text(x, row('a', 19) + "b");
        Checks.draw(x, "vwxy$1$0");
        CHECKS.throwing("101 signs", STATE, () -> x.replace(0));
        CHECKS.due("the out stays", Checks.out(x, 100), "vwxya".repeat(20));
        CHECKS.throwing("the out has no more", BOUNDS, () -> x.outSign(100));
        CHECKS.due("the draft stays", x.clear(), 8);
        // Too long only with what is behind the last match.
        String ten = "$0".repeat(10);
        replaced("a+", row('a', 9) + row('b', 10), ten, row('a', 90) + row('b', 10));
        Checks.tell(x, 0, "a+");
        Checks.text(x, row('a', 9) + row('b', 11));
        Checks.draw(x, ten);
        CHECKS.throwing("101 signs with the rest", STATE, () -> x.replace(0));
        CHECKS.due("the out stays", x.outSign(99), 'a');
        // Far too long: 21 matches with 32 signs each.
        x.clear();
        Checks.tell(x, 0, "");
        Checks.draw(x, row('c', 32));
        CHECKS.throwing("692 signs", STATE, () -> x.replace(0));
        CHECKS.due("the draft stays", x.clear(), 32);
    }

    // ---- calls that answer of earlier ones, and calls that are refused

    private static void calls() {
        groupsOfCalls();
        trialsOfCalls();
        matchesOfCalls();
        firstLineDecides();
        whatCallsChange();
        oneBehindAnother();
        onceMore();
        refusedCalls();
    }

    /** "NONE if the group was not set, or there was no match, or no call yet", "0 for all of the match, 1 to 6" */
    private static void groupsOfCalls() {
        Regexloom x = new Regexloom();
        CHECKS.due("no call yet", Checks.groups(x), ". . . . . . .");
        Checks.tell(x, 0, "(a)|(b)");
        Checks.text(x, "ab");
        CHECKS.due("still no call", Checks.groups(x), ". . . . . . .");
        x.match(0, 1);
        CHECKS.due("a group that is not set", Checks.groups(x), "1-2 . 1-2 . . . .");
        x.match(0, 2);
        CHECKS.due("no match", Checks.groups(x), ". . . . . . .");
        x.find(0, 0);
        CHECKS.due("find", Checks.groups(x), "0-1 0-1 . . . . .");
        x.find(0, 2);
        CHECKS.due("none found", Checks.groups(x), ". . . . . . .");
        x.matchBySets(0, 1);
        CHECKS.due("by sets", Checks.groups(x), "1-2 . 1-2 . . . .");
        x.matchBySets(0, 2);
        CHECKS.due("none by sets", Checks.groups(x), ". . . . . . .");
        for (int group = 0; group <= 6; group++) {
            CHECKS.due("group " + group, x.group(group, true), -1);
        }
        for (int wrong : new int[] {-1, 7}) {
            CHECKS.throwing("group " + wrong, BOUNDS, () -> x.group(wrong, false));
        }
        for (int wrong : FAR_OFF) {
            CHECKS.throwing("group " + wrong, BOUNDS, () -> x.group(wrong, true));
        }
    }

    /** "with GIVEN_UP the budget; 0 without a call" */
    private static void trialsOfCalls() {
        Regexloom x = Checks.with("a*b", row('a', 20));
        CHECKS.due("without a call", x.trials(), 0);
        for (int budget : new int[] {1, 2, 62, 63}) {
            x.setBudget(budget);
            CHECKS.due("match with " + budget, x.match(0, 0), budget < 63 ? -2 : -1);
            CHECKS.due("its trials", x.trials(), budget);
        }
        x.setBudget(64);
        CHECKS.due("match with 64", x.match(0, 0), -1);
        CHECKS.due("its trials", x.trials(), 63);
        CHECKS.due("find with 64", x.find(0, 0), -2);
        CHECKS.due("its trials", x.trials(), 64);
        x.setBudget(3);
        CHECKS.due("a new budget", x.trials(), 64);
        // "the latest match() or find() .., whichever was called last"
        x.which(20);
        x.findAll(0);
        x.matchBySets(0, 20);
        CHECKS.due("other calls", x.trials(), 64);
        x.match(0, 20);
        CHECKS.due("match behind find", x.trials(), 3);
        x.setBudget(4);
        x.find(0, 20);
        CHECKS.due("find behind match", x.trials(), 3);
        x.find(0, 19);
        CHECKS.due("find behind find", x.trials(), 4);
    }

    /** "the matches are kept until the next call"; "if there is no such match" */
    private static void matchesOfCalls() {
        Regexloom x = Checks.with("a", "aba");
        CHECKS.throwing("found without a call", BOUNDS, () -> x.found(0, true));
        CHECKS.due("findAll", x.findAll(0), 2);
        x.wipe();
        Checks.tell(x, 0, "c");
        x.match(0, 0);
        CHECKS.throwing("a refused one", STATE, () -> x.findAll(1));
        CHECKS.throwing("a refused one", BOUNDS, () -> x.findAll(4));
        CHECKS.due("the first one", x.found(0, false), 0);
        CHECKS.due("the first one's end", x.found(0, true), 1);
        CHECKS.due("the last one", x.found(1, false), 2);
        CHECKS.due("the last one's end", x.found(1, true), 3);
        for (int wrong : new int[] {-1, 2}) {
            CHECKS.throwing("found " + wrong, BOUNDS, () -> x.found(wrong, false));
        }
        for (int wrong : FAR_OFF) {
            CHECKS.throwing("found " + wrong, BOUNDS, () -> x.found(wrong, true));
        }
        CHECKS.due("none", x.findAll(0), 0);
        CHECKS.throwing("found of none", BOUNDS, () -> x.found(0, true));
    }

    /** "The first line of a method's throws clause that applies decides" */
    private static void firstLineDecides() {
        Regexloom x = Checks.with("(?=a)", "a");
        for (int place : new int[] {-1, 2}) {
            for (int p : new int[] {-1, 0, 1, 4}) {
                CHECKS.throwing("match " + p + " at " + place, BOUNDS, () -> x.match(p, place));
                CHECKS.throwing("find " + p + " at " + place, BOUNDS, () -> x.find(p, place));
                CHECKS.throwing("matchBySets " + p + " at " + place, BOUNDS, () -> x.matchBySets(p, place));
                CHECKS.throwing("longest " + p + " at " + place, BOUNDS, () -> x.longest(p, place));
                CHECKS.throwing("canStill " + p + " at " + place, BOUNDS, () -> x.canStill(p, place));
                CHECKS.throwing("ways " + p + " from " + place, BOUNDS, () -> x.ways(p, place, 0));
                CHECKS.throwing("ways " + p + " to " + place, BOUNDS, () -> x.ways(p, 0, place));
            }
        }
        Checks.draw(x, "(");
        CHECKS.throwing("tell a fault as no pattern", BOUNDS, () -> x.tell(4));
        CHECKS.throwing("tell a fault as -1", BOUNDS, () -> x.tell(-1));
        CHECKS.throwing("tell a fault", STATE, () -> x.tell(0));
        Checks.draw(x, row('(', 31));
        CHECKS.throwing("a wrong sign behind 32", ARGUMENT, () -> x.sign('%'));
        CHECKS.throwing("a sign behind 32", STATE, () -> x.sign('a'));
    }

    /** Something of everything: patterns of all sorts, a text, a draft, a match, found ones, an out. */
    private static Regexloom full() {
        Regexloom x = new Regexloom();
        Checks.tell(x, 0, "(a)(b)?|c");
        Checks.tell(x, 1, "(?=(a))\\w");
        Checks.tell(x, 3, "^");
        Checks.text(x, "abaac");
        Checks.draw(x, "<$1>");
        x.replace(0);
        x.findAll(0);
        x.setBudget(77);
        x.find(0, 1);
        Checks.draw(x, "q(");
        return x;
    }

    private static final String[] PARTS = {"groups", "trials", "fault", "matches", "out", "budget", "draft", "text",
        "patterns"};

    /** All that can be seen of an object, by the parts told above; what it says is gone from it then. */
    private static String[] partsOf(Regexloom x) {
        String[] all = new String[PARTS.length];
        all[0] = Checks.groups(x);
        all[1] = "" + x.trials();
        all[2] = "" + x.fault();
        all[3] = "";
        for (int k = 0; k < 6; k++) {
            int match = k;
            all[3] += ' ' + Checks.answer(() -> x.found(match, false)) + Checks.answer(() -> x.found(match, true));
        }
        all[4] = "";
        for (int k = 0; k < 110; k++) {
            int place = k;
            all[4] += Checks.answer(() -> x.outSign(place)).replace(BOUNDS, "~");
        }
        all[5] = "" + x.setBudget(250);
        // Put ahead of the text, which then comes alone.
        String both = Checks.out(x, x.replace(3));
        all[7] = Checks.out(x, x.replace(3)) + x.length();
        all[6] = both.substring(0, both.length() - x.length()) + x.clear();
        all[8] = "";
        Checks.text(x, "abaac");
        for (int k = 0; k < 4; k++) {
            int p = k;
            all[8] += ' ' + Checks.answer(() -> x.isPlain(p)) + Checks.answer(() -> x.isRegular(p));
            for (int from = 0; from <= 5; from++) {
                int place = from;
                all[8] += Checks.answer(() -> x.match(p, place)) + Checks.answer(() -> x.matchBySets(p, place));
            }
        }
        return all;
    }

    private static String seen(Regexloom x) {
        return String.join(" ", partsOf(x));
    }

    /** What a call changes, and nothing else: the names of parts. */
    private static void changes(String what, String draft, String due, Function<Regexloom, Object> call) {
        Regexloom x = full();
        Regexloom same = full();
        for (Regexloom one : new Regexloom[] {x, same}) {
            one.clear();
            Checks.draw(one, draft);
        }
        call.apply(x);
        String[] now = partsOf(x);
        String[] before = partsOf(same);
        StringBuilder changed = new StringBuilder();
        for (int k = 0; k < PARTS.length; k++) {
            changed.append(now[k].equals(before[k]) ? "" : PARTS[k] + " ");
        }
        CHECKS.due("what " + what + " changes", changed.toString().trim(), due);
    }

    /** Each method returns and changes what its promise says, and leaves the rest as it is. */
    private static void whatCallsChange() {
        changes("sign", "q(", "fault draft", x -> x.sign('a'));
        changes("clear", "q(", "fault draft", x -> x.clear());
        changes("fault", "q(", "", x -> x.fault());
        changes("fault of none", "b", "", x -> x.fault());
        changes("tell in place of one", "b", "draft patterns", x -> x.tell(0));
        changes("tell a first one", "(b)", "draft patterns", x -> x.tell(2));
        changes("lot", "b", "draft text", x -> x.lot());
        changes("lot of nothing", "", "", x -> x.lot());
        changes("wipe", "q(", "text", x -> x.wipe());
        changes("length", "q(", "", x -> x.length());
        changes("isPlain", "q(", "", x -> x.isPlain(0));
        changes("isRegular", "q(", "", x -> x.isRegular(0));
        changes("setBudget", "q(", "budget", x -> x.setBudget(78));
        changes("match", "q(", "groups trials", x -> x.match(0, 4));
        changes("match without one", "q(", "groups trials", x -> x.match(0, 1));
        changes("match of another one", "q(", "groups trials", x -> x.match(3, 0));
        changes("find", "q(", "groups trials", x -> x.find(0, 4));
        changes("find without one", "q(", "groups trials", x -> x.find(0, 5));
        changes("matchBySets", "q(", "groups", x -> x.matchBySets(0, 4));
        changes("matchBySets without one", "q(", "groups", x -> x.matchBySets(0, 5));
        changes("group", "q(", "", x -> x.group(0, true));
        changes("trials", "q(", "", x -> x.trials());
        changes("longest", "q(", "", x -> x.longest(0, 0));
        changes("longest without one", "q(", "", x -> x.longest(0, 5));
        changes("canStill", "q(", "", x -> x.canStill(0, 4));
        changes("canStill not", "q(", "", x -> x.canStill(0, 0));
        for (int from = 0; from <= 5; from++) {
            int place = from;
            changes("which at " + from, "q(", "", x -> x.which(place));
        }
        changes("ways", "q(", "", x -> x.ways(0, 0, 2));
        changes("ways of none", "q(", "", x -> x.ways(0, 2, 0));
        changes("findAll", "q(", "matches", x -> x.findAll(1));
        changes("findAll of one", "q(", "matches", x -> x.findAll(3));
        changes("found", "q(", "", x -> x.found(0, true));
        changes("replace", "b", "out draft", x -> x.replace(0));
        changes("replace by what would be a fault", "q(", "fault out draft", x -> x.replace(1));
        changes("outSign", "q(", "", x -> x.outSign(0));
    }

    private static final String[] DRAFTS = {"(a)(b)?", "\\2()", "", "a*?b", "(a", "(?|(a)|(b))\\1", "b|a(*C)", "[^a-b]",
        "()\\1(?1)", "(?1)", "a++", "^|$", "(?<=a)b", "a)", "(a)(b)(c)(d)(e)(f)", "a{2,3}", "\\6", "(?i:A)\\b",
        "(?R)?a", "a(*S)c|b", "((a|b)+?)c", "(?!b).", "[b-a]", "()(?(1)a|b|", "c|(?(1)b)()", "ab\\.",
        "(?:ab)*", "a(?:\\*|bx)", "(a?)*b\\^|a", "(?:a|a)*(?:a|a)*", "(?:abc?a)*\\$"};

    /** What a draft answers, and what the pattern that it is then does with a text. */
    private static String allOf(Regexloom x, String draft, String text) {
        x.clear();
        Checks.draw(x, draft);
        StringBuilder all = new StringBuilder("f").append(x.fault());
        if (x.fault() != -1) {
            return all.append(Checks.answer(() -> x.tell(1))).toString();
        }
        all.append(" g").append(x.tell(1)).append(' ').append(x.isPlain(1)).append(x.isRegular(1));
        x.wipe();
        Checks.draw(x, text);
        all.append(x.lot()).append(" m").append(x.match(1, 0)).append(" t").append(x.trials());
        all.append(Checks.groups(x)).append(" f").append(x.find(1, 1)).append(" t").append(x.trials());
        all.append(Checks.groups(x)).append(" s").append(Checks.answer(() -> x.matchBySets(1, 0)));
        all.append(" l").append(Checks.answer(() -> x.longest(1, 0)));
        all.append(" c").append(Checks.answer(() -> x.canStill(1, 0)));
        all.append(" w").append(Checks.answer(() -> x.ways(1, 0, 1))).append(" a").append(x.findAll(1));
        x.sign('#');
        int size = x.replace(1);
        return all.append(" r").append(Checks.out(x, size)).toString();
    }

    /** What an object answers of a pattern and a text has nothing of those that it had before. */
    private static void oneBehindAnother() {
        for (int first = 0; first < DRAFTS.length; first++) {
            for (int step : new int[] {1, 4, 7}) {
                Regexloom x = new Regexloom();
                // So many as stay below 512 calls.
                for (int k = 0; k < 6; k++) {
                    String draft = DRAFTS[(first + k * step) % DRAFTS.length];
                    String text = k % 2 == 0 ? "abcab" : "ba";
                    CHECKS.due(draft + " behind others", allOf(x, draft, text), allOf(new Regexloom(), draft, text));
                }
            }
        }
    }

    /** "An object is used for at most 512 calls": the same calls so often answer the same, and so do the last ones. */
    private static void onceMore() {
        for (String pattern : new String[] {"(a)*", "((a)|b)*?$", "(?:(a)(?=(a))|(?1))*", "(?>(a)(*S))+b", "(a)(?2)*+(.)"}) {
            Regexloom x = Checks.with(pattern, row('a', 20));
            String first = "";
            // Some 45 calls so far, and nine in each round; fifteen at last.
            for (int round = 0; round <= 40; round++) {
                String all = "m" + x.match(0, 0) + " t" + x.trials() + " f" + x.find(0, 1)
                        + " s" + Checks.answer(() -> x.matchBySets(0, 0)) + " w" + x.which(0)
                        + " y" + Checks.answer(() -> x.ways(0, 0, 9)) + " l" + Checks.answer(() -> x.longest(0, 0))
                        + " a" + x.findAll(0) + " r" + Checks.answer(() -> x.replace(0));
                if (round == 0) {
                    first = all;
                }
                CHECKS.due(pattern + " in round " + round, all, first);
            }
            int end = x.match(0, 0);
            String groups = Checks.groups(x);
            Regexloom fresh = Checks.with(pattern, row('a', 20));
            CHECKS.due(pattern + " at last", end + groups, fresh.match(0, 0) + Checks.groups(fresh));
        }
    }

    private static void refused(String what, String name, Function<Regexloom, Object> call) {
        Regexloom x = full();
        CHECKS.throwing(what, name, () -> call.apply(x));
        CHECKS.due("what is seen behind a refused " + what, seen(x), seen(full()));
    }

    /** "a call that throws changes nothing" */
    private static void refusedCalls() {
        refused("sign", ARGUMENT, x -> x.sign('%'));
        for (int wrong : new int[] {-1, 4}) {
            refused("tell", BOUNDS, x -> x.tell(wrong));
            refused("isPlain", BOUNDS, x -> x.isPlain(wrong));
            refused("isRegular", BOUNDS, x -> x.isRegular(wrong));
            refused("match", BOUNDS, x -> x.match(wrong, 0));
            refused("find", BOUNDS, x -> x.find(wrong, 0));
            refused("matchBySets", BOUNDS, x -> x.matchBySets(wrong, 0));
            refused("longest", BOUNDS, x -> x.longest(wrong, 0));
            refused("canStill", BOUNDS, x -> x.canStill(wrong, 0));
            refused("ways", BOUNDS, x -> x.ways(wrong, 0, 0));
            refused("findAll", BOUNDS, x -> x.findAll(wrong));
            refused("replace", BOUNDS, x -> x.replace(wrong));
        }
        for (int wrong : new int[] {-1, 6}) {
            refused("match at " + wrong, BOUNDS, x -> x.match(0, wrong));
            refused("find at " + wrong, BOUNDS, x -> x.find(0, wrong));
            refused("matchBySets at " + wrong, BOUNDS, x -> x.matchBySets(0, wrong));
            refused("longest at " + wrong, BOUNDS, x -> x.longest(0, wrong));
            refused("canStill at " + wrong, BOUNDS, x -> x.canStill(0, wrong));
            refused("which at " + wrong, BOUNDS, x -> x.which(wrong));
            refused("ways from " + wrong, BOUNDS, x -> x.ways(0, wrong, 0));
            refused("ways to " + wrong, BOUNDS, x -> x.ways(0, 0, wrong));
        }
        refusedByState();
        for (int wrong : new int[] {0, 251}) {
            refused("setBudget " + wrong, ARGUMENT, x -> x.setBudget(wrong));
        }
        for (int wrong : new int[] {-1, 7}) {
            refused("group " + wrong, BOUNDS, x -> x.group(wrong, true));
        }
        for (int wrong : new int[] {-1, 4}) {
            refused("found " + wrong, BOUNDS, x -> x.found(wrong, true));
        }
        for (int wrong : new int[] {-1, 11}) {
            refused("outSign " + wrong, BOUNDS, x -> x.outSign(wrong));
        }
    }

    private static void refusedByState() {
        for (int p : new int[] {0, 1, 2, 3}) {
            refused("tell a fault as " + p, STATE, x -> x.tell(p));
        }
        refused("lot of q(", STATE, x -> x.lot());
        refused("isPlain of what is not told", STATE, x -> x.isPlain(2));
        refused("isRegular of what is not told", STATE, x -> x.isRegular(2));
        for (int p : new int[] {1, 2}) {
            refused("matchBySets of " + p, STATE, x -> x.matchBySets(p, 0));
            refused("ways of " + p, STATE, x -> x.ways(p, 0, 0));
        }
        for (int p : new int[] {1, 2, 3}) {
            refused("longest of " + p, STATE, x -> x.longest(p, 0));
            refused("canStill of " + p, STATE, x -> x.canStill(p, 0));
        }
        refused("match of what is not told", STATE, x -> x.match(2, 0));
        refused("find of what is not told", STATE, x -> x.find(2, 0));
        refused("findAll of what is not told", STATE, x -> x.findAll(2));
        refused("replace of what is not told", STATE, x -> x.replace(2));
        afterARefusal("a full draft", row('a', 30), x -> x.sign('a'));
        afterARefusal("a lot that is too long", row('a', 14), x -> x.lot());
        afterARefusal("an out that is too long", row('a', 29) + "#", x -> x.replace(0));
        Regexloom given = full();
        given.setBudget(2);
        CHECKS.throwing("a match that is given up", STATE, () -> given.replace(0));
        given.setBudget(77);
        CHECKS.due("what is seen behind a match that is given up", seen(given), seen(full()));
    }

    /** Like a refused call, but with more in the draft, or other signs in it. */
    private static void afterARefusal(String what, String draft, Function<Regexloom, Object> call) {
        Regexloom x = full();
        Regexloom same = full();
        for (Regexloom one : new Regexloom[] {x, same}) {
            if (!what.equals("a full draft")) {
                one.clear();
            }
            Checks.draw(one, draft);
            if (what.startsWith("a lot")) {
                Checks.draw(one, "bc");
            }
            if (what.startsWith("an out")) {
                // Four matches with 31 signs each at least.
                Checks.draw(one, "$0");
            }
        }
        CHECKS.throwing(what, STATE, () -> call.apply(x));
        CHECKS.due("what is seen behind " + what, seen(x), seen(same));
    }
}
