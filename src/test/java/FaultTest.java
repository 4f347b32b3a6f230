/** Promises 4 and 5: faults of drafts, some by hand, many by chance against the grammar read sign by sign. */
public final class FaultTest {
    private static final Checks CHECKS = new Checks();
    private static final String SIGNS = "abzAZ09_ .*+?{}()[]|^$\\,:=!<>-#";
    private static final String OFTEN = "ab1(?|)[]{}*+?-^i:<=!>RCPST6\\w,0";

    private static void fault(String draft, int due) {
        Regexloom x = new Regexloom();
        Checks.draw(x, draft);
        CHECKS.due("fault of " + draft, x.fault(), due);
        CHECKS.due("grammar's fault of " + draft, Grammar.fault(draft), due);
        CHECKS.due("the draft is kept: " + draft, x.fault(), due);
        if (due == -1) {
            x.tell(3);
            CHECKS.due("told: " + draft, x.clear(), 0);
        } else {
            CHECKS.throwing("tell " + draft, "IllegalStateException", () -> x.tell(3));
            CHECKS.throwing("not told: " + draft, "IllegalStateException", () -> x.isPlain(3));
            CHECKS.due("draft of " + draft, x.clear(), draft.length());
        }
    }

    public static void main(String[] args) {
        byHand();
        int rounds = args.length > 0 ? Integer.parseInt(args[0]) : 30000;
        int whole = 0;
        int untold = 0;
        for (int seed = 1; seed <= rounds; seed++) {
            Maker maker = new Maker(seed + 777000L);
            maker.make(false);
            String draft = changed(maker, maker.signs);
            int due = Grammar.fault(draft);
            fault(draft, due);
            whole += due == -1 ? 1 : 0;
            untold += due == draft.length() + 1 ? 1 : 0;
            fault(maker.signs, -1);
        }
        CHECKS.due("some are whole", whole > rounds / 50, true);
        CHECKS.due("some refer to what is not told", untold > rounds / 500, true);
        CHECKS.end("FaultTest");
    }

    private static String changed(Maker by, String signs) {
        StringBuilder all = new StringBuilder(signs);
        if (by.next(8) == 0) {
            // Often a reference to what is not told.
            return signs.replaceAll("(\\\\|\\(\\?\\(?)[1-6]", "$1" + (1 + by.next(6)));
        }
        if (by.next(4) == 0) {
            all.setLength(0);
        }
        int changes = all.length() == 0 ? 20 : 1 + by.next(3);
        for (int k = 0; k < changes; k++) {
            String from = by.next(2) == 0 ? SIGNS : OFTEN;
            char sign = from.charAt(by.next(from.length()));
            int place = by.next(all.length() + 1);
            int form = all.length() == 0 ? 0 : by.next(4);
            if (form < 2 || place == all.length()) {
                all.insert(place, sign);
            } else if (form == 2) {
                all.deleteCharAt(place);
            } else {
                all.setCharAt(place, sign);
            }
        }
        if (all.length() > 32) {
            all.setLength(32);
        }
        return all.toString();
    }

    private static void byHand() {
        fault("", -1);
        fault("|", -1);
        fault("||a", -1);
        fault("()", -1);
        fault("(?=)", -1);
        fault("(?<!)(?<=)(?!)(?>)(?:)(?i:)(?|)", -1);
        fault("()(?(1))", -1);
        fault("()(?(1)|)", -1);
        fault("()(?(1)||)", 8);
        fault("()(?(1)(a|b|c)|)", -1);
        fault(")", 0);
        fault("a)", 1);
        fault("*", 0);
        fault("a|*", 2);
        fault("(+)", 1);
        fault("a**", 2);
        fault("a*?+", 3);
        fault("a*+?", 3);
        fault("a???", 3);
        fault("a{2}{3}", 4);
        fault("a{2}+", -1);
        fault("a{2}?", -1);
        fault("^*", 1);
        fault("$+", 1);
        fault("\\b?", 2);
        fault("\\B{", 2);
        fault("(?=a)*", 5);
        fault("(?<!a)?", 6);
        fault("(*C)*", 4);
        fault("(^)*", -1);
        fault("(?>a)*", -1);
        fault("(a)\\1*(?1)+(?R)?(?(1)a){2}", -1);
        fault("{", 0);
        fault("}", 0);
        fault("a{", 2);
        fault("a{0}", 3);
        fault("a{0,0}", 4);
        fault("a{0,}", -1);
        fault("a{0,1}", -1);
        fault("a{3,2}", 4);
        fault("a{32", 3);
        fault("a{2,2}", -1);
        fault("a{,2}", 2);
        fault("a{9,", 4);
        fault("a{9,9", 5);
        fault("a{9,8", 4);
        fault("#", 0);
        fault("a,", 1);
        fault("a-", 1);
        fault("\\", 1);
        fault("\\a", 1);
        fault("\\7", 1);
        fault("\\0", 1);
        fault("\\{", 1);
        fault("\\.\\*\\+\\?\\(\\)\\[\\]\\|\\^\\$\\\\", -1);
        fault("\\1", 3);
        fault("(a)\\2", 6);
        fault("\\1(a)", -1);
        fault("(?1)", 5);
        fault("(?R)", -1);
        fault("(?(2)a)(b)", 11);
        fault("(?7)", 2);
        fault("(?0)", 2);
        fault("(?(7)", 3);
        fault("(?(R)", 3);
        fault("[", 1);
        fault("[]", 1);
        fault("[^]", 2);
        fault("[^^]", 2);
        fault("[a", 2);
        fault("[a-", 3);
        fault("[a-]", 3);
        fault("[a-Z]", 3);
        fault("[b-a]", 3);
        fault("[b-b]", -1);
        fault("[a-c-e]", 4);
        fault("[_-a]", 2);
        fault("[ -a]", 2);
        fault("[0-a]", 3);
        fault("[a-_]", 3);
        fault("[A-Z0-9_ ]", -1);
        fault("[.]", 1);
        fault("[\\w]", 1);
        fault("(", 1);
        fault("(a", 2);
        fault("(?", 2);
        fault("(?<", 3);
        fault("(?<a", 3);
        fault("(?i", 3);
        fault("(?ia", 3);
        fault("(?a", 2);
        fault("(*", 2);
        fault("(*D", 2);
        fault("(*C", 3);
        fault("(*Cb", 3);
        fault("((((((a))))))", -1);
        fault("(((((((", 7);
        fault("(((((((a", 7);
        fault("(((((((?:a)))))))", -1);
        fault("()()()()()()(a)", 13);
        fault("()()()()()()()", 13);
        fault("()()()()()()(*C)(?:)", -1);
        fault("(?|(a)(b)|(c)(d)|(e)(f))()()()()", -1);
        fault("(?|()()()|())()()()", -1);
        fault("(?|()()()|())()()()(", 20);
        fault("(?|()()()|())()()()()", 20);
        fault("(?|()|()())\\3", 14);
        fault("(?|()|()())\\2", -1);
        fault("(?:()|())\\3", 12);
    }
}
