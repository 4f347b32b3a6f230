import java.util.function.Supplier;

/** All promises: long runs of calls by chance on one object, wrong arguments among them, against the shadow. */
public final class CallsTest {
    private static final Checks CHECKS = new Checks();
    private static final int[] ODD = {-1, -2, 7, 21, 99, Integer.MIN_VALUE, Integer.MAX_VALUE, 4, 0, 251};

    private Regexloom x = new Regexloom();
    private Shadow shadow = new Shadow();
    private final Maker maker;
    private final int seed;
    private int calls;
    private String last = "";

    private CallsTest(int seed) {
        this.seed = seed;
        maker = new Maker(seed + 99000L);
    }

    public static void main(String[] args) {
        int rounds = args.length > 0 ? Integer.parseInt(args[0]) : 1500;
        for (int seed = 1; seed <= rounds; seed++) {
            CallsTest test = new CallsTest(seed);
            while (test.calls < 512) {
                test.step();
            }
        }
        CHECKS.end("CallsTest");
    }

    private void due(String call, Supplier<Object> got, String want) {
        if (calls >= 512) {
            return;
        }
        calls++;
        last = call;
        CHECKS.due("seed " + seed + " call " + calls + " " + call, Checks.answer(got), want);
    }

    private int number(int most) {
        return maker.next(12) == 0 ? ODD[maker.next(ODD.length)] : maker.next(most + 1);
    }

    private void step() {
        switch (maker.next(12)) {
            case 0: case 1:
                maker.make(maker.next(2) == 0);
                Maker one = new Maker(0);
                one.pattern = maker.pattern;
                one.signs = maker.signs;
                one.groups = maker.groups;
                shadow.know(one);
                if (maker.next(10) > 0) {
                    empty();
                }
                draw(one.signs);
                int told = number(3);
                tell(told);
                break;
            case 2:
                if (maker.next(3) > 0) {
                    due("wipe", () -> x.wipe(), shadow.wipe());
                }
                draw(maker.text(maker.next(4) == 0 ? 20 : 9));
                due("lot", () -> x.lot(), shadow.lot());
                due("length", () -> x.length(), "" + shadow.length());
                break;
            case 3:
                draw(new String[] {"$1", "^2-1", "<$0>#", "a*", "-9^", "_ (", "$6$7x", "^0-0"}[maker.next(8)]);
                int which = number(3);
                if (maker.next(2) == 0) {
                    due("replace " + which, () -> x.replace(which), shadow.replace(which));
                }
                break;
            case 4:
                char sign = (char) maker.next(maker.next(9) == 0 ? 65536 : 128);
                due("sign " + (int) sign, () -> x.sign(sign), shadow.sign(sign));
                due("fault", () -> x.fault(), shadow.fault());
                break;
            case 5:
                if (maker.next(3) == 0) {
                    int budget = maker.next(3) == 0 ? number(250) : 250 - maker.next(40);
                    due("setBudget " + budget, () -> x.setBudget(budget), shadow.setBudget(budget));
                }
                if (maker.next(8) == 0) {
                    tell(number(3));
                }
                break;
            default:
                ask(number(3), number(shadow.length()));
                break;
        }
    }

    private void empty() {
        due("clear", () -> x.clear(), shadow.clear());
    }

    private void draw(String signs) {
        for (int k = 0; k < signs.length() && calls < 512; k++) {
            char sign = signs.charAt(k);
            due("sign " + sign, () -> x.sign(sign), shadow.sign(sign));
        }
    }

    private void tell(int pattern) {
        if (calls < 512 && shadow.canTell()) {
            due("tell " + pattern, () -> x.tell(pattern), shadow.tell(pattern));
        } else {
            empty();
        }
    }

    private void ask(int pattern, int from) {
        if (calls >= 512) {
            return;
        }
        String where = " " + pattern + " " + from;
        switch (maker.next(11)) {
            case 0:
                due("isPlain" + where, () -> x.isPlain(pattern), shadow.isPlain(pattern));
                due("isRegular" + where, () -> x.isRegular(pattern), shadow.isRegular(pattern));
                break;
            case 1: case 2:
                due("match" + where, () -> x.match(pattern, from), shadow.match(pattern, from));
                look();
                break;
            case 3: case 4:
                due("find" + where, () -> x.find(pattern, from), shadow.find(pattern, from));
                look();
                break;
            case 5:
                String answer = shadow.matchBySets(pattern, from);
                if (answer != null) {
                    due("matchBySets" + where, () -> x.matchBySets(pattern, from), answer);
                    look();
                }
                break;
            case 6:
                due("longest" + where, () -> x.longest(pattern, from), shadow.longest(pattern, from));
                break;
            case 7:
                due("canStill" + where, () -> x.canStill(pattern, from), shadow.canStill(pattern, from));
                break;
            case 8:
                due("which" + where, () -> x.which(from), shadow.which(from));
                break;
            case 9:
                int to = number(shadow.length());
                String ways = shadow.ways(pattern, from, to);
                if (ways != null) {
                    due("ways" + where + " " + to, () -> x.ways(pattern, from, to), ways);
                }
                break;
            default:
                if (maker.next(2) == 0) {
                    due("findAll" + where, () -> x.findAll(pattern), shadow.findAll(pattern));
                }
                int match = number(2);
                boolean isEnd = maker.next(2) == 0;
                due("found " + match, () -> x.found(match, isEnd), shadow.found(match, isEnd));
                int place = number(8);
                due("outSign " + place, () -> x.outSign(place), shadow.outSign(place));
                break;
        }
    }

    private void look() {
        int group = number(6);
        boolean isEnd = maker.next(2) == 0;
        if (calls < 512) {
            due("group " + group, () -> x.group(group, isEnd), shadow.group(group, isEnd));
            due("trials", () -> x.trials(), shadow.trials());
        }
    }
}
