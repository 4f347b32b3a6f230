/** Each promise by hand: what the document says, with its edges and wrong arguments. */
public final class PromiseTest {
    private static final Checks CHECKS = new Checks();
    private static final String BOUNDS = "IndexOutOfBoundsException";
    private static final String ARGUMENT = "IllegalArgumentException";
    private static final String STATE = "IllegalStateException";

    public static void main(String[] args) {
        promise1();
        promises2And3();
        promises4And5();
        promises6To8();
        promises9And10();
        promise11();
        counts();
        atoms();
        groupsAndCalls();
        looks();
        cuts();
        trials();
        promise12();
        promise13();
        promise14();
        promises15And16();
        promise17();
        promise18();
        promise19();
        promise20();
        promises21And22();
        promises23And24();
        CHECKS.end("PromiseTest");
    }

    /** A match at a place: its groups, or the answer if there is none. */
    private static void match(String pattern, String text, int from, String due) {
        Regexloom x = Checks.with(pattern, text);
        int end = x.match(0, from);
        String got = end < 0 ? "" + end : Checks.groups(x).replaceAll("( \\.)+$", "");
        CHECKS.due("match " + pattern + " in '" + text + "' at " + from, got, due);
        if (end >= 0) {
            CHECKS.due("end of " + pattern + " in '" + text + "'", end, x.group(0, true));
        }
    }

    private static void find(String pattern, String text, int from, String due) {
        Regexloom x = Checks.with(pattern, text);
        int begin = x.find(0, from);
        String got = begin < 0 ? "" + begin : Checks.groups(x).replaceAll("( \\.)+$", "");
        CHECKS.due("find " + pattern + " in '" + text + "' from " + from, got, due);
    }

    private static void trialsOf(String pattern, String text, int due) {
        Regexloom x = Checks.with(pattern, text);
        x.match(0, 0);
        CHECKS.due("trials of " + pattern + " in '" + text + "'", x.trials(), due);
    }

    private static void promise1() {
        Regexloom x = new Regexloom();
        CHECKS.due("new length", x.length(), 0);
        CHECKS.due("new wipe", x.wipe(), 0);
        CHECKS.due("new clear", x.clear(), 0);
        CHECKS.due("new fault", x.fault(), -1);
        CHECKS.due("new trials", x.trials(), 0);
        CHECKS.due("new which", x.which(0), 0);
        CHECKS.due("new budget", x.setBudget(250), 250);
        CHECKS.due("new groups", Checks.groups(x), ". . . . . . .");
        CHECKS.throwing("new out", BOUNDS, () -> x.outSign(0));
        CHECKS.throwing("new found", BOUNDS, () -> x.found(0, false));
        for (int k = 0; k < 4; k++) {
            int p = k;
            CHECKS.throwing("new isPlain", STATE, () -> x.isPlain(p));
            CHECKS.throwing("new match", STATE, () -> x.match(p, 0));
            CHECKS.throwing("new findAll", STATE, () -> x.findAll(p));
        }
        CHECKS.due("NONE", Regexloom.NONE, -1);
        CHECKS.due("GIVEN_UP", Regexloom.GIVEN_UP, -2);
    }

    private static void promises2And3() {
        Regexloom x = new Regexloom();
        String those = "abcdefghijklmnopqrstuvwxyzABCDEFGHIJKLMNOPQRSTUVWXYZ0123456789_ .*+?{}()[]|^$\\,:=!<>-#";
        for (int c = 0; c < 300; c++) {
            char sign = (char) c;
            x.clear();
            CHECKS.due("sign " + c, Checks.answer(() -> x.sign(sign)), those.indexOf(sign) >= 0 ? "1" : ARGUMENT);
            CHECKS.due("kept " + c, x.clear(), those.indexOf(sign) >= 0 ? 1 : 0);
        }
        CHECKS.throwing("sign far off", ARGUMENT, () -> x.sign((char) 65535));
        for (int k = 1; k <= 32; k++) {
            CHECKS.due("sign number " + k, x.sign('a'), k);
        }
        CHECKS.throwing("a 33rd sign", STATE, () -> x.sign('a'));
        CHECKS.throwing("a wrong 33rd sign", ARGUMENT, () -> x.sign('%'));
        CHECKS.due("clear", x.clear(), 32);
        CHECKS.due("clear again", x.clear(), 0);
        CHECKS.due("sign anew", x.sign('b'), 1);
    }

    private static void promises4And5() {
        Regexloom x = new Regexloom();
        CHECKS.due("tell", Checks.tell(x, 0, "(a)(?:b(c))"), 2);
        CHECKS.due("empty then", x.clear(), 0);
        CHECKS.due("tell the empty one", x.tell(3), 0);
        CHECKS.due("tell six", Checks.tell(x, 1, "((((((a))))))"), 6);
        CHECKS.due("tell a reset", Checks.tell(x, 1, "(?|(a)|(b)(c))(d)"), 3);
        Checks.draw(x, "a{3,2}");
        CHECKS.due("fault", x.fault(), 4);
        CHECKS.throwing("tell -1", BOUNDS, () -> x.tell(-1));
        CHECKS.throwing("tell 4", BOUNDS, () -> x.tell(4));
        CHECKS.throwing("tell a fault", STATE, () -> x.tell(0));
        CHECKS.due("the draft stays", x.clear(), 6);
        Checks.text(x, "abc");
        CHECKS.due("the pattern stays", x.match(0, 0), 3);
        Checks.tell(x, 0, "b");
        CHECKS.due("in place of one", x.match(0, 0), -1);
        CHECKS.due("others stay", x.match(3, 2), 2);
        Checks.draw(x, "(a)\\2");
        CHECKS.due("not told", x.fault(), 6);
        CHECKS.throwing("tell what refers to none", STATE, () -> x.tell(0));
        x.clear();
        Checks.draw(x, "(a\\1");
        CHECKS.due("too early", x.fault(), 4);
    }

    private static void promises6To8() {
        Regexloom x = new Regexloom();
        Checks.draw(x, "aZ9_ ");
        CHECKS.due("lot", x.lot(), 5);
        CHECKS.due("empty then", x.clear(), 0);
        CHECKS.due("length", x.length(), 5);
        CHECKS.due("an empty lot", x.lot(), 5);
        for (char sign : ".*+?{}()[]|^$\\,:=!<>-#".toCharArray()) {
            Checks.draw(x, "a" + sign);
            CHECKS.throwing("lot with " + sign, STATE, () -> x.lot());
            CHECKS.due("the draft stays", x.clear(), 2);
        }
        Checks.draw(x, "0123456789abcdef");
        CHECKS.throwing("21 signs", STATE, () -> x.lot());
        CHECKS.due("the draft stays", x.clear(), 16);
        CHECKS.due("the text stays", x.length(), 5);
        Checks.draw(x, "0123456789abcde");
        CHECKS.due("20 signs", x.lot(), 20);
        Checks.draw(x, "a");
        CHECKS.throwing("one more", STATE, () -> x.lot());
        CHECKS.due("none more", x.clear() + x.lot(), 21);
        Checks.tell(x, 0, "aZ9_ 0123456789abcde$");
        CHECKS.due("behind what is there", x.match(0, 0), 20);
        CHECKS.due("wipe", x.wipe(), 20);
        CHECKS.due("wipe again", x.wipe(), 0);
        CHECKS.due("length", x.length(), 0);
        CHECKS.throwing("no such place", BOUNDS, () -> x.match(0, 1));
    }

    private static void form(String pattern, boolean isPlain, boolean isRegular) {
        Regexloom x = new Regexloom();
        Checks.tell(x, 2, pattern);
        CHECKS.due("isPlain " + pattern, x.isPlain(2), isPlain);
        CHECKS.due("isRegular " + pattern, x.isRegular(2), isRegular);
    }

    private static void promises9And10() {
        form("", true, true);
        form("a(b|c)*d+?[x-z]{2,3}\\d\\w.\\.", true, true);
        form("(?i:a)(?|(b)|(c))", true, true);
        form("^a", true, false);
        form("a$", true, false);
        form("a|b\\bc", true, false);
        form("(a|(\\B))", true, false);
        for (String hard : new String[] {"a*+", "a{1}+", "(?=a)", "(?!a)", "(?<=a)", "(?<!a)", "(?>a)", "(a)\\1",
            "(a)(?1)", "a?(?R)?", "(a)(?(1)b)", "a(*C)", "a(*P)", "a(*S)", "a(*T)", "((?:a|(b*+)))"}) {
            form(hard, false, false);
        }
        form("a{9}b{9}c{6}", true, true);
        form("a{9}b{9}c{7}", false, false);
        form("(a{9}b){2}c{3}d", true, true);
        form("(a{9}b){2}c{3}d.", false, false);
        form("(a{9,}b){2,}c{3,}d{0,}", true, true);
        form("(a{9,}b){2,}c{3,}d{0,}e", false, false);
        form("(?:a|b|cd){1,6}", true, true);
        form("(?:a|b|cde){1,5}", false, false);
        form("^^^^(){1}\\b$", true, false);
        form("(a?){2}", false, false);
        form("(a?){1,2}", false, false);
        form("(a?){0,2}", false, false);
        form("(a?){2,}", false, false);
        form("(a?){1,}", true, true);
        form("(a?){0,}", true, true);
        form("(a?){0,1}", true, true);
        form("(a?){1}", true, true);
        form("(a?){1,1}", true, true);
        form("(a|){2}", false, false);
        form("(a|b){2}", true, true);
        form("(){2}", false, false);
        form("(^|a){2}", false, false);
        form("(?:^\\b){2}", false, false);
        form("(?:^a){2}", true, false);
        form("((a*)(b+)?){2}", false, false);
        form("((a*)b){2}", true, true);
        form("(?:(a|b{0,2})){3}", false, false);
        form("(\\.){2}", true, true);
        Regexloom x = Checks.with("a", "");
        CHECKS.throwing("isPlain -1", BOUNDS, () -> x.isPlain(-1));
        CHECKS.throwing("isPlain 4", BOUNDS, () -> x.isPlain(4));
        CHECKS.throwing("isPlain of none", STATE, () -> x.isPlain(1));
        CHECKS.throwing("isRegular -1", BOUNDS, () -> x.isRegular(-1));
        CHECKS.throwing("isRegular 4", BOUNDS, () -> x.isRegular(4));
        CHECKS.throwing("isRegular of none", STATE, () -> x.isRegular(1));
    }

    private static void promise11() {
        Regexloom x = Checks.with("a*b", "aaaaac");
        CHECKS.due("setBudget", x.setBudget(7), 250);
        CHECKS.due("setBudget again", x.setBudget(1), 7);
        for (int wrong : new int[] {0, -1, 251, Integer.MIN_VALUE, Integer.MAX_VALUE}) {
            CHECKS.throwing("setBudget " + wrong, ARGUMENT, () -> x.setBudget(wrong));
        }
        CHECKS.due("it stays", x.setBudget(250), 1);
        CHECKS.due("none", x.match(0, 0), -1);
        CHECKS.due("trials", x.trials(), 18);
        x.setBudget(18);
        CHECKS.due("just enough", x.match(0, 0), -1);
        x.setBudget(17);
        CHECKS.due("one too few", x.match(0, 0), -2);
        CHECKS.due("trials then", x.trials(), 17);
        CHECKS.due("by sets without it", x.matchBySets(0, 0), -1);
    }

    private static void counts() {
        match("a*", "aaab", 0, "0-3");
        match("a*?", "aaab", 0, "0-0");
        match("a+?", "aaab", 0, "0-1");
        match("a{2,3}", "aaaab", 0, "0-3");
        match("a{2,3}?", "aaaab", 0, "0-2");
        match("a{2}", "aaaab", 0, "0-2");
        match("a{2,}", "aaaab", 0, "0-4");
        match("a{2,}", "ab", 0, "-1");
        match("a{0,1}b", "ab", 0, "0-2");
        match("a{9}", "aaaaaaaaaa", 0, "0-9");
        match("a?ab", "ab", 0, "0-2");
        match("a?+ab", "ab", 0, "-1");
        match("a*+a", "aaa", 0, "-1");
        match("a++b", "aaab", 0, "0-4");
        match("(?:ab|a)++b", "abab", 0, "-1");
        match("(?:a|ab){1}+c", "abc", 0, "-1");
        match("(a|ab)(c|bcd)(d*)", "abcd", 0, "0-4 0-1 1-4 4-4");
        // A turn that is not needed and takes no sign fails; what it set is as before.
        match("(a?)*", "b", 0, "0-0");
        match("(a?)*", "ab", 0, "0-1 0-1");
        match("()?", "a", 0, "0-0");
        match("(a?)+", "b", 0, "0-0 0-0");
        match("(a?)+", "ab", 0, "0-1 0-1");
        match("(a?){3}", "ab", 0, "0-1 1-1");
        match("(a?){3,}", "aaaab", 0, "0-4 3-4");
        match("(|a){2,5}b", "aab", 0, "0-3 1-2");
        match("(|a)+", "aab", 0, "0-0 0-0");
        match("(|a)+?b", "aab", 0, "0-3 1-2");
        match("(?:a|(b))*", "ba", 0, "0-2 0-1");
        match("(a*)*", "aa", 0, "0-2 0-2");
        match("(?:(a)|b)*?c", "abc", 0, "0-3 0-1");
    }

    private static void atoms() {
        match("a.c", "a_c", 0, "0-3");
        match(".", "", 0, "-1");
        match(". .", "a b", 0, "0-3");
        match("\\w*", "azAZ09_ a", 0, "0-7");
        match("\\d*", "0189a", 0, "0-4");
        match("[b-dX_0-2 ]*", "bcdX_012 a", 0, "0-9");
        match("[^b-d]*", "aeB1_ b", 0, "0-6");
        match("[^a]", "", 0, "-1");
        match("\\.", "a", 0, "-1");
        match("\\\\|a", "a", 0, "0-1");
        match("^a", "aa", 0, "0-1");
        match("^a", "aa", 1, "-1");
        match("a$", "aa", 0, "-1");
        match("a$", "aa", 1, "1-2");
        match("^$", "", 0, "0-0");
        match("\\b", "", 0, "-1");
        match("\\B", "", 0, "0-0");
        match("\\b", "a", 0, "0-0");
        match("\\b", "a", 1, "1-1");
        match("\\B", " ", 1, "1-1");
        match("\\b", "a_", 1, "-1");
        match("\\b", "a ", 1, "1-1");
        match("\\B", "a ", 1, "-1");
        match("(?i:a[b-c]Z)", "AByz", 0, "-1");
        match("(?i:a[b-c]Z)", "ABz", 0, "0-3");
        match("(?i:[^a-c])", "B", 0, "-1");
        match("(?i:[^A])", "a", 0, "-1");
        match("(?i:a)a", "AA", 0, "-1");
        match("(?i:(?:(a)))b", "Ab", 0, "0-2 0-1");
        match("(a)(?i:\\1)", "aA", 0, "0-2 0-1");
        match("(a)\\1", "aA", 0, "-1");
        match("(?i:(a))\\1", "AA", 0, "0-2 0-1");
        match("(?i:_1 )", "_1 ", 0, "0-3");
        match("", "a", 1, "1-1");
        match("|a", "a", 0, "0-0");
        match("b|a|", "a", 0, "0-1");
    }

    private static void groupsAndCalls() {
        match("(a)(?:b)(c)", "abc", 0, "0-3 0-1 2-3");
        match("((a)|b)+", "ab", 0, "0-2 1-2 0-1");
        match("(?|(a)|(b)(c))(d)", "ad", 0, "0-2 0-1 . 1-2");
        match("(?|(a)|(b)(c))(d)", "bcd", 0, "0-3 0-1 1-2 2-3");
        match("(?|(a)|(b))\\1", "bb", 0, "0-2 0-1");
        match("(?|(a)|(b))(?1)", "ba", 0, "0-2 0-1");
        match("(?|(a)|(b))(?1)", "bb", 0, "-1");
        match("(?|(?:(a)|(b))|(c))(d)", "cd", 0, "0-2 0-1 . 1-2");
        match("(a)?\\1", "b", 0, "-1");
        match("(a|b\\1)+", "aba", 0, "0-3 1-3");
        match("()\\1a", "a", 0, "0-1 0-0");
        match("(ab?)\\1", "abab", 0, "0-4 0-2");
        match("(ab?)\\1", "aba", 0, "-1");
        match("(a(?1)?b)", "aabb", 0, "0-4 0-4");
        match("a(?R)?b", "aaabbb", 0, "0-6");
        // A call is tried each way, and leaves groups as they were.
        match("(a|ab)(?1)c", "aabc", 0, "0-4 0-1");
        match("(a*)(?1)b", "aab", 0, "0-3 0-2");
        match("((a)|(b))(?1)\\2", "aba", 0, "0-3 0-1 0-1");
        match("((a)|(b))(?1)\\3", "aba", 0, "-1");
        // Five calls can be in one another.
        match("a(?R)?b", "aaaaaabbbbbb", 0, "0-12");
        match("a(?R)?b", "aaaaaaabbbbbbb", 0, "-1");
        match("(?R)?a", "aaaaaaaaa", 0, "0-6");
        match("(?i:(a))(?1)", "aA", 0, "0-2 0-1");
        match("(a)(?i:(?1))", "aA", 0, "-1");
        match("(?:(a)|b)(?(1)c|d)", "ac", 0, "0-2 0-1");
        match("(?:(a)|b)(?(1)c|d)", "bd", 0, "0-2");
        match("(?:(a)|b)(?(1)c|d)", "ad", 0, "-1");
        match("(a)?(?(1)b)", "c", 0, "0-0");
        match("(a)?(?(1)b)c", "ac", 0, "-1");
        match("(?>a|ab)c", "abc", 0, "-1");
        match("(?>(a)|ab)c", "ac", 0, "0-2 0-1");
        match("(?>a*)b", "aab", 0, "0-3");
        match("(?>a*)ab", "aab", 0, "-1");
        match("(a)(b)(c)(d)(e)(f)", "abcdef", 0, "0-6 0-1 1-2 2-3 3-4 4-5 5-6");
        find("(a)(b)(c)(d)(e)(f)", " abcdef", 0, "1-7 1-2 2-3 3-4 4-5 5-6 6-7");
        match("((((((a))))))\\6(?6)(?(6)b|c)", "aaab", 0, "0-4 0-1 0-1 0-1 0-1 0-1 0-1");
    }

    private static void looks() {
        match("(?=(a*))ab", "ab", 0, "0-2 0-1");
        match("(?=(a*))\\1b", "aab", 0, "0-3 0-2");
        match("(?=(a|ab))\\1c", "abc", 0, "-1");
        match("(?!(a))b", "b", 0, "0-1");
        match("(?!(a))a", "a", 0, "-1");
        match("(?!(a)b)a", "ac", 0, "0-1");
        match("(?<=(a))b", "ab", 1, "1-2 0-1");
        match("(?<=a)b", "bb", 1, "-1");
        match("(?<=^a*)b", "aab", 2, "2-3");
        match("(?<!a)b", "ab", 1, "-1");
        match("(?<!a)b", "bb", 0, "0-1");
        // From here on back: the shortest one comes first.
        match("(?<=(a*))", "aa", 2, "2-2 2-2");
        match("(?<=(a+))", "aa", 2, "2-2 1-2");
        match("(?<=(a+|ba+))", "baa", 3, "3-3 2-3");
        match("(?<=(a|ab))", "ab", 2, "2-2 0-2");
        match("(?<=(?=(b))\\w)", "b", 1, "1-1 0-1");
        match("(?<=a(?=b))b", "ab", 1, "1-2");
        match("a(?<!(b))", "a", 0, "0-1");
    }

    private static void cuts() {
        find("a(*C)b", "acab", 0, "-1");
        find("a(*P)b", "acab", 0, "2-4");
        find("a+(*P)b", "aaacab", 0, "4-6");
        find("aa*(*P)b|a", "aac", 0, "-1");
        find("a+(*S)b|.", "aaac", 0, "3-4");
        find("(*S)b|a", "aab", 0, "2-3");
        find("a(?=a(*S)b)|a", "aac", 0, "0-1");
        match("a(*P)b|ac", "ac", 0, "-1");
        match("a(*T)b|ac", "ac", 0, "0-2");
        match("a(*T)b|a(*T)c|ad", "ad", 0, "0-2");
        match("(a(*T)b|ac)d", "acd", 0, "0-3 0-2");
        match("(?:a|ab(*T)c)d|abd", "abd", 0, "0-3");
        match("(?:a(*T)b)?a", "ac", 0, "-1");
        find("(?:a(*T)b)?a", "aca", 0, "-1");
        match("(a(*T)c)?ab|ab", "ab", 0, "0-2");
        match("(?:(x)|a(?(1)y|(*T)b)|ac)", "ac", 0, "0-2");
        match("(?:a(*P)b)*+a", "aa", 0, "-1");
        match("(?:a(*C)b)*+a|ac", "ac", 0, "0-2");
        match("(?:a(*T)b)*+a|ac", "ac", 0, "0-2");
        match("(?:a(*T)b|ac)*+d", "acd", 0, "0-3");
        match("(?>a(*C)b)|ac", "ac", 0, "0-2");
        match("(?>a(*C)b|ac)|a", "ac", 0, "0-1");
        match("(?>a(*T)b|ac)d", "acd", 0, "0-3");
        match("(?>(?:a(*T)b)|ac)", "ac", 0, "0-2");
        match("(?=a(*C)b|ac)ac|a", "ac", 0, "0-1");
        match("(?=a(*T)b|ac)ac", "ac", 0, "0-2");
        match("(?!a(*C)b)a", "ac", 0, "0-1");
        match("(?!a(*P)b|ac)a", "ac", 0, "0-1");
        match("(?!a(*T)b|ac)a", "ac", 0, "-1");
        match("(?<=(*P)a)b|(b)", "ab", 1, "1-2 1-2");
        match("(?<!(*P)a)b", "ab", 1, "1-2");
        match("(?1)|ac|(a(*C)b)", "ac", 0, "0-2");
        match("(?:(?1)d|abc)|(x|ab(*P))", "abc", 0, "0-3");
        match("(?1)c|(a(*T)b|a)", "ac", 0, "0-2");
        match("(?1)c|ac|(a(*T)b)", "ac", 0, "0-2");
        // What is matched whole in a look or an atomic group is not backed up over.
        match("(?>a(*C))b|ac", "ac", 0, "0-2");
        match("(?=a(*C))ab|ac", "ac", 0, "0-2");
        // The cut that is nearest is backed up over first.
        find("a(*C)b(*P)c", "abdabc", 0, "3-6");
        find("a(*P)b(*C)c", "abdabc", 0, "-1");
        match("a(*C)b(*T)c|abd", "abd", 0, "0-3");
        match("a(*C)b(*T)c|abe", "abd", 0, "-1");
    }

    private static void trials() {
        trialsOf("", "a", 0);
        trialsOf("a", "a", 1);
        trialsOf("a", "b", 1);
        trialsOf("ab", "ac", 2);
        trialsOf("a|b", "b", 4);
        trialsOf("|a", "a", 1);
        trialsOf("a*", "aa", 6);
        trialsOf("a*+", "a", 4);
        trialsOf("a{2}", "aaa", 4);
        trialsOf("a??b", "b", 1);
        trialsOf("a??b", "ab", 4);
        trialsOf("(a)", "a", 2);
        trialsOf("(?:a)", "a", 2);
        trialsOf("(a|b)", "b", 5);
        trialsOf("(?>a|b)", "b", 5);
        trialsOf("(?|a|b)", "b", 5);
        trialsOf("(?=a)a", "a", 3);
        trialsOf("(?!a)b", "b", 3);
        trialsOf("(?<=a)b", "b", 3);
        trialsOf("^$\\b\\B", "", 3);
        trialsOf("(a)\\1", "aa", 3);
        trialsOf("(a)(?1)", "aa", 4);
        trialsOf("(a|b)(?1)", "aa", 6);
        trialsOf("(a)(?(1)b|c)", "ab", 4);
        trialsOf("(a)?(?(1)b)", "", 4);
        trialsOf("a(*P)b", "ac", 3);
        trialsOf("(?R)?", "", 12);
        Regexloom x = Checks.with("(?<=a)b", "ab");
        CHECKS.due("look behind", x.match(0, 1), 2);
        CHECKS.due("its trials", x.trials(), 6);
    }

    private static void promise12() {
        Regexloom x = Checks.with("(a)b", "abab");
        CHECKS.due("match", x.match(0, 2), 4);
        CHECKS.due("match none", x.match(0, 1), -1);
        CHECKS.due("match at the end", x.match(0, 4), -1);
        x.setBudget(2);
        CHECKS.due("match given up", x.match(0, 0), -2);
        x.setBudget(3);
        CHECKS.due("match in time", x.match(0, 0), 2);
        for (int wrong : new int[] {-1, 4, Integer.MIN_VALUE, Integer.MAX_VALUE}) {
            CHECKS.throwing("pattern " + wrong, BOUNDS, () -> x.match(wrong, 0));
            CHECKS.throwing("find pattern " + wrong, BOUNDS, () -> x.find(wrong, 0));
            CHECKS.throwing("matchBySets pattern " + wrong, BOUNDS, () -> x.matchBySets(wrong, 0));
            CHECKS.throwing("longest pattern " + wrong, BOUNDS, () -> x.longest(wrong, 0));
            CHECKS.throwing("canStill pattern " + wrong, BOUNDS, () -> x.canStill(wrong, 0));
            CHECKS.throwing("ways pattern " + wrong, BOUNDS, () -> x.ways(wrong, 0, 0));
            CHECKS.throwing("findAll pattern " + wrong, BOUNDS, () -> x.findAll(wrong));
            CHECKS.throwing("replace pattern " + wrong, BOUNDS, () -> x.replace(wrong));
        }
        for (int wrong : new int[] {-1, 5, Integer.MIN_VALUE, Integer.MAX_VALUE}) {
            for (int p : new int[] {0, 1}) {
                CHECKS.throwing("match from " + wrong, BOUNDS, () -> x.match(p, wrong));
                CHECKS.throwing("find from " + wrong, BOUNDS, () -> x.find(p, wrong));
                CHECKS.throwing("matchBySets from " + wrong, BOUNDS, () -> x.matchBySets(p, wrong));
                CHECKS.throwing("longest from " + wrong, BOUNDS, () -> x.longest(p, wrong));
                CHECKS.throwing("canStill from " + wrong, BOUNDS, () -> x.canStill(p, wrong));
                CHECKS.throwing("ways from " + wrong, BOUNDS, () -> x.ways(p, wrong, 0));
                CHECKS.throwing("ways to " + wrong, BOUNDS, () -> x.ways(p, 0, wrong));
            }
            CHECKS.throwing("which from " + wrong, BOUNDS, () -> x.which(wrong));
        }
        CHECKS.throwing("match not told", STATE, () -> x.match(1, 0));
        CHECKS.throwing("find not told", STATE, () -> x.find(1, 4));
        CHECKS.throwing("matchBySets not told", STATE, () -> x.matchBySets(1, 0));
        CHECKS.throwing("longest not told", STATE, () -> x.longest(1, 0));
        CHECKS.throwing("canStill not told", STATE, () -> x.canStill(1, 0));
        CHECKS.throwing("ways not told", STATE, () -> x.ways(1, 0, 0));
        CHECKS.throwing("findAll not told", STATE, () -> x.findAll(1));
        CHECKS.throwing("replace not told", STATE, () -> x.replace(1));
        CHECKS.due("nothing has changed", Checks.groups(x) + " " + x.trials(), "0-2 0-1 . . . . . 3");
    }

    private static void promise13() {
        find("b", "aab", 0, "2-3");
        find("", "ab", 2, "2-2");
        find("a", "ab", 1, "-1");
        find("$", "ab", 0, "2-2");
        find("^a", "aa", 1, "-1");
        find("(?<=a)b", "ab", 1, "1-2");
        Regexloom x = Checks.with("ab", "aab");
        CHECKS.due("find", x.find(0, 0), 1);
        CHECKS.due("trials of all places", x.trials(), 4);
        x.setBudget(3);
        CHECKS.due("find given up", x.find(0, 0), -2);
        CHECKS.due("trials then", x.trials(), 3);
        CHECKS.due("groups then", Checks.groups(x), ". . . . . . .");
        CHECKS.due("find from farther", x.find(0, 1), 1);
        CHECKS.due("trials then", x.trials(), 2);
    }

    private static void promise14() {
        String[][] those = {
            {"(a|ab)(c|bcd)(d*)", "abcd", "0-4 0-1 1-4 4-4"}, {"a*?", "aa", "0-0"}, {"(a?)*", "ab", "0-1 0-1"},
            {"(a?)+", "b", "0-0 0-0"}, {"(|a)+?b", "aab", "0-3 1-2"}, {"(a*)*", "aa", "0-2 0-2"},
            {"(?:a|(b))*", "ba", "0-2 0-1"}, {"((a)|b)+", "ab", "0-2 1-2 0-1"}, {"^a\\b", "a b", "0-1"},
            {"(?|(a)|(b)(c))(d)", "bcd", "0-3 0-1 1-2 2-3"}, {"a{2,3}?", "aaa", "0-2"}, {"b", "a", "-1"},
            {"(?i:[a-c]{1,})", "aBCd", "0-3"}, {"a\\.", "a", "-1"}, {"", "", "0-0"}, {"(a|b?)+?$", "ab", "0-2 1-2"},
            {"(?:(a)|(b)|)*c", "abc", "0-3 0-1 1-2"}, {"(a{2}){3}", "aaaaaaa", "0-6 4-6"},
            {"(a)(b)(c)(d)(e)(f)g*", "abcdefgg", "0-8 0-1 1-2 2-3 3-4 4-5 5-6"}};
        for (String[] one : those) {
            Regexloom x = Checks.with(one[0], one[1]);
            x.setBudget(1);
            int end = x.matchBySets(0, 0);
            String got = end < 0 ? "" + end : Checks.groups(x).replaceAll("( \\.)+$", "");
            CHECKS.due("matchBySets " + one[0] + " in " + one[1], got, one[2]);
            CHECKS.due("no trials", x.trials(), 0);
            match(one[0], one[1], 0, one[2]);
        }
        Regexloom x = Checks.with("(?:a|a)*(?:a|a)*b", "aaaaaaaaaaaaaaaaaaaa");
        CHECKS.due("without a budget", x.matchBySets(0, 0), -1);
        CHECKS.due("with one", x.match(0, 0), -2);
        Checks.tell(x, 1, "a*+");
        CHECKS.throwing("not plain", STATE, () -> x.matchBySets(1, 0));
        Checks.tell(x, 1, "^(a)$");
        Checks.text(x, "a");
        CHECKS.due("not regular", x.matchBySets(1, 0), 1);
        CHECKS.due("from its end", x.matchBySets(1, 1), -1);
    }

    private static void promises15And16() {
        Regexloom x = Checks.with("(b)|(a)", "ab");
        for (int wrong : new int[] {-1, 7, Integer.MIN_VALUE, Integer.MAX_VALUE}) {
            CHECKS.throwing("group " + wrong, BOUNDS, () -> x.group(wrong, true));
        }
        CHECKS.due("find", x.find(0, 0), 0);
        CHECKS.due("its groups", Checks.groups(x), "0-1 . 0-1 . . . .");
        CHECKS.due("its trials", x.trials(), 6);
        CHECKS.due("by sets", x.matchBySets(0, 1), 2);
        CHECKS.due("its groups", Checks.groups(x), "1-2 1-2 . . . . .");
        CHECKS.due("the trials stay", x.trials(), 6);
        x.findAll(0);
        x.which(0);
        x.replace(0);
        x.longest(0, 0);
        x.ways(0, 0, 1);
        CHECKS.due("others change nothing", Checks.groups(x) + x.trials(), "1-2 1-2 . . . . .6");
        x.wipe();
        Checks.tell(x, 0, "c");
        CHECKS.due("nor new texts and patterns", Checks.groups(x) + x.trials(), "1-2 1-2 . . . . .6");
        CHECKS.due("none", x.match(0, 0), -1);
        CHECKS.due("its groups", Checks.groups(x), ". . . . . . .");
        CHECKS.due("its trials", x.trials(), 1);
        Checks.text(x, "c");
        CHECKS.due("by sets", x.matchBySets(0, 0), 1);
        CHECKS.due("none by sets", x.matchBySets(0, 1), -1);
        CHECKS.due("its groups", Checks.groups(x), ". . . . . . .");
    }

    private static void longest(String pattern, String text, int from, int due) {
        CHECKS.due("longest " + pattern + " in " + text, Checks.with(pattern, text).longest(0, from), due);
    }

    private static void promise17() {
        longest("a|ab|abc", "abcd", 0, 3);
        longest("a*?", "aab", 0, 2);
        longest("a*?", "aab", 2, 2);
        longest("", "a", 1, 1);
        longest("b", "a", 0, -1);
        longest("(a|ab)(c|bcd)?", "abcd", 0, 4);
        longest("(?:aa)*?", "aaaaa", 0, 4);
        longest("(?i:[b-c]*)", "BcCa", 0, 3);
        longest("(a?)+b?", "aab", 0, 3);
        Regexloom x = Checks.with("a\\b", "a");
        CHECKS.throwing("longest not regular", STATE, () -> x.longest(0, 0));
        Checks.tell(x, 0, "a{9}b{9}c{7}");
        CHECKS.throwing("longest not plain", STATE, () -> x.longest(0, 0));
    }

    private static void canStill(String pattern, String text, int from, boolean due) {
        CHECKS.due("canStill " + pattern + " in '" + text + "'", Checks.with(pattern, text).canStill(0, from), due);
    }

    private static void promise18() {
        canStill("abc", "ab", 0, true);
        canStill("abc", "ab", 1, false);
        canStill("abc", "ab", 2, true);
        canStill("abc", "abc", 0, true);
        canStill("abc", "abcd", 0, false);
        canStill("abc|a.*e", "abcd", 0, true);
        canStill("", "", 0, true);
        canStill("", "a", 0, false);
        canStill("a*", "aa", 0, true);
        canStill("a*", "ab", 0, false);
        canStill("a?", "a", 0, true);
        canStill("a{2,3}", "a", 0, true);
        canStill("a{2,3}", "aaaa", 0, false);
        // No text has such signs.
        canStill("a\\.", "a", 0, false);
        canStill("a\\.?", "a", 0, true);
        canStill("a(?:\\*|b)", "a", 0, true);
        canStill("\\(", "", 0, false);
        canStill("a[^a-zA-Z0-9_ ]", "a", 0, false);
        canStill("a[^a-zA-Z0-9_]", "a", 0, true);
        Regexloom x = Checks.with("a$", "a");
        CHECKS.throwing("canStill not regular", STATE, () -> x.canStill(0, 0));
        Checks.tell(x, 0, "ab+c");
        Checks.draw(x, "b");
        x.lot();
        CHECKS.due("with a second lot", x.canStill(0, 0), true);
        Checks.draw(x, "b");
        x.lot();
        CHECKS.due("with a third lot", x.canStill(0, 0), true);
        Checks.draw(x, "a");
        x.lot();
        CHECKS.due("with a wrong lot", x.canStill(0, 0), false);
    }

    private static void promise19() {
        Regexloom x = new Regexloom();
        Checks.text(x, "aab");
        CHECKS.due("none told", x.which(3), 0);
        Checks.tell(x, 0, "a*b");
        Checks.tell(x, 2, "b");
        Checks.tell(x, 3, "");
        CHECKS.due("which at 0", x.which(0), 9);
        CHECKS.due("which at 2", x.which(2), 13);
        CHECKS.due("which at 3", x.which(3), 8);
        x.setBudget(6);
        CHECKS.due("each its own budget", x.which(0), 8);
        x.setBudget(7);
        CHECKS.due("each its own budget", x.which(0), 9);
        Checks.tell(x, 1, "aab");
        CHECKS.due("all but one", x.which(0), 11);
    }

    private static void ways(String pattern, String text, int from, int to, int due) {
        CHECKS.due("ways " + pattern + " in '" + text + "' from " + from + " to " + to,
                Checks.with(pattern, text).ways(0, from, to), due);
    }

    private static void promise20() {
        ways("a*", "aaa", 0, 3, 1);
        ways("a*a*", "aaa", 0, 3, 4);
        ways("a*?a*", "aaa", 0, 2, 3);
        ways("a*a*", "aaa", 1, 1, 1);
        ways("(?:a|a)(?:a|a)", "aa", 0, 2, 4);
        ways("(?:a|a)*", "aaaaaa", 0, 6, 64);
        ways("(?:a|a)*", "aaaaaaa", 0, 7, 99);
        ways("(?:a|a)*", "aaaaaaaaaaaaaaaaaaaa", 0, 20, 99);
        ways("(?:a|a)*b", "aaaaaaaaaaaaaaaaaaab", 0, 20, 99);
        ways("(?:a|a)*b", "aaaaaaaaaaaaaaaaaaaa", 0, 20, 0);
        ways("(?:a|aa)*", "aaaaa", 0, 5, 8);
        ways("(a?)*", "a", 0, 0, 1);
        ways("(a?)*", "a", 0, 1, 1);
        ways("(|a)+", "a", 0, 0, 1);
        ways("(|a)+", "a", 0, 1, 1);
        ways("(|)", "", 0, 0, 2);
        ways("(|)+", "", 0, 0, 2);
        ways("(|)*", "", 0, 0, 1);
        ways("|".repeat(32), "", 0, 0, 33);
        ways("(?:a?|a)", "a", 0, 1, 2);
        ways("a{0,3}a{1,2}", "aaa", 0, 3, 2);
        ways("a|ab", "ab", 0, 1, 1);
        ways("^a$", "a", 0, 1, 1);
        ways("a$", "ab", 0, 1, 0);
        ways("a", "aa", 1, 0, 0);
        ways("", "aa", 1, 1, 1);
        ways("", "aa", 0, 1, 0);
        Regexloom x = Checks.with("(a)\\1", "aa");
        CHECKS.throwing("ways not plain", STATE, () -> x.ways(0, 0, 2));
    }

    private static String all(Regexloom x, int pattern) {
        int count = x.findAll(pattern);
        StringBuilder all = new StringBuilder();
        for (int k = 0; k < count; k++) {
            all.append(x.found(k, false)).append('-').append(x.found(k, true)).append(' ');
        }
        CHECKS.throwing("found " + count, BOUNDS, () -> x.found(count, false));
        return all.toString();
    }

    private static void promises21And22() {
        CHECKS.due("findAll a*", all(Checks.with("a*", "baac"), 0), "0-0 1-3 3-3 4-4 ");
        CHECKS.due("findAll a", all(Checks.with("a", "aba"), 0), "0-1 2-3 ");
        CHECKS.due("findAll of none", all(Checks.with("c", "aba"), 0), "");
        CHECKS.due("findAll of nothing", all(Checks.with("", ""), 0), "0-0 ");
        CHECKS.due("findAll aa", all(Checks.with("aa", "aaaaa"), 0), "0-2 2-4 ");
        CHECKS.due("findAll ^a", all(Checks.with("^a|b", "aab"), 0), "0-1 2-3 ");
        CHECKS.due("findAll cut off", all(Checks.with("a(*C)|b(*C)c", "aabab"), 0), "0-1 1-2 ");
        CHECKS.due("findAll skipping", all(Checks.with("a+(*S)b|.", "aacab"), 0), "2-3 3-5 ");
        StringBuilder due = new StringBuilder();
        for (int k = 0; k <= 20; k++) {
            due.append(k).append('-').append(k).append(' ');
        }
        CHECKS.due("findAll of 21", all(Checks.with("", "aaaaaaaaaaaaaaaaaaaa"), 0), due.toString());
        Regexloom x = Checks.with("a", "aaa");
        x.setBudget(2);
        CHECKS.due("up to where it is given up", all(x, 0), "0-1 1-2 ");
        x.setBudget(3);
        CHECKS.due("one budget for all", all(x, 0), "0-1 1-2 2-3 ");
        CHECKS.throwing("findAll not told", STATE, () -> x.findAll(1));
        CHECKS.due("kept", x.found(2, true), 3);
        x.wipe();
        x.match(0, 0);
        CHECKS.due("kept until the next one", x.found(1, false), 1);
        for (int wrong : new int[] {-1, 3, Integer.MIN_VALUE, Integer.MAX_VALUE}) {
            CHECKS.throwing("found " + wrong, BOUNDS, () -> x.found(wrong, true));
        }
        CHECKS.due("none left", x.findAll(0), 0);
        CHECKS.throwing("found 0", BOUNDS, () -> x.found(0, true));
    }

    private static void replaced(String pattern, String text, String template, String due) {
        Regexloom x = Checks.with(pattern, text);
        Checks.draw(x, template);
        String what = "replace " + pattern + " in '" + text + "' by " + template;
        CHECKS.due(what, x.replace(0), due.length());
        CHECKS.due(what, Checks.out(x, due.length()), due);
        CHECKS.throwing(what, BOUNDS, () -> x.outSign(due.length()));
        CHECKS.due(what + ": draft", x.clear(), 0);
        CHECKS.due(what + ": text", x.length(), text.length());
    }

    private static void promises23And24() {
        replaced("(a)(b)?", "abxa", "<$1^2-1$9$>", "<aBa$>x<aa$>");
        replaced("\\w+", "Ab_1 c", "-0^0$0", "ab_1AB_1Ab_1 cCc");
        replaced("", "ab", "-", "-a-b-");
        replaced("a*", "baac", "#", "#b##c#");
        replaced("c", "ab", "x", "ab");
        replaced("a", "aba", "", "b");
        replaced("(b)|a", "ab", "[$1]", "[][b]");
        replaced("b", "abc", "$0$1$6$7$$0^", "ab$b^c");
        replaced("b", "b", "^-$", "^-$");
        replaced("b", "b", "$-0", "$b");
        replaced("(?<=(a))b", "ab", "^1", "aA");
        replaced(".", "aaaaaaaaaaaaaaaaaaaa", "xyzuv", "xyzuv".repeat(20));
        Regexloom x = Checks.with("a", "aaaaaaaaaaaaaaaaaaaa");
        Checks.draw(x, "-$0-");
        CHECKS.due("replace", x.replace(0), 60);
        Checks.draw(x, "xyz$0$0$0");
        CHECKS.throwing("too long", STATE, () -> x.replace(0));
        CHECKS.throwing("replace -1", BOUNDS, () -> x.replace(-1));
        CHECKS.throwing("replace 4", BOUNDS, () -> x.replace(4));
        CHECKS.throwing("replace not told", STATE, () -> x.replace(3));
        CHECKS.due("the draft stays", x.clear(), 9);
        x.setBudget(20);
        CHECKS.throwing("given up", STATE, () -> x.replace(0));
        x.setBudget(21);
        CHECKS.due("the out stays", Checks.out(x, 60), "-a-".repeat(20));
        CHECKS.throwing("outSign -1", BOUNDS, () -> x.outSign(-1));
        CHECKS.throwing("outSign 60", BOUNDS, () -> x.outSign(60));
        CHECKS.throwing("outSign far off", BOUNDS, () -> x.outSign(Integer.MAX_VALUE));
        CHECKS.due("no out", x.replace(0), 0);
        CHECKS.throwing("outSign 0", BOUNDS, () -> x.outSign(0));
    }
}
