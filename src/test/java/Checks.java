import java.util.function.Supplier;

/** Counts what is as due, and tells what is not. */
final class Checks {
    private int passed;
    private int failed;

    void due(String what, Object got, Object want) {
        if (String.valueOf(got).equals(String.valueOf(want))) {
            passed++;
            return;
        }
        failed++;
        if (failed <= 50) {
            System.out.println("NOT AS DUE: " + what + " answered " + got + ", due is " + want);
        }
    }

    /** The answer of a call, or the plain name of what it throws. */
    static String answer(Supplier<Object> call) {
        try {
            return String.valueOf(call.get());
        } catch (RuntimeException e) {
            return e.getClass().getSimpleName();
        }
    }

    void throwing(String what, String name, Supplier<Object> call) {
        due(what, answer(call), name);
    }

    void end(String name) {
        System.out.println(name + ": " + passed + " as due, " + failed + " not");
        if (failed != 0 || passed == 0) {
            System.exit(1);
        }
    }

    /** Puts signs into the draft. */
    static void draw(Regexloom x, String signs) {
        for (int k = 0; k < signs.length(); k++) {
            x.sign(signs.charAt(k));
        }
    }

    static int tell(Regexloom x, int pattern, String signs) {
        draw(x, signs);
        return x.tell(pattern);
    }

    static void text(Regexloom x, String signs) {
        x.wipe();
        draw(x, signs);
        x.lot();
    }

    static Regexloom with(String pattern, String text) {
        Regexloom x = new Regexloom();
        tell(x, 0, pattern);
        text(x, text);
        return x;
    }

    /** All groups of the latest match, as "0-3 1-2 . . . . ." */
    static String groups(Regexloom x) {
        StringBuilder all = new StringBuilder();
        for (int g = 0; g <= 6; g++) {
            if (g > 0) {
                all.append(' ');
            }
            int begin = x.group(g, false);
            int end = x.group(g, true);
            if (begin == -1 && end == -1) {
                all.append('.');
            } else {
                all.append(begin).append('-').append(end);
            }
        }
        return all.toString();
    }

    static String out(Regexloom x, int size) {
        StringBuilder all = new StringBuilder();
        for (int k = 0; k < size; k++) {
            all.append(x.outSign(k));
        }
        return all.toString();
    }
}
