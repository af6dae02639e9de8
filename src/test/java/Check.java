/** What the tests share: comparing answers, and ending with 1 if one was wrong. */
final class Check {
    private static int wrong = 0;

    private Check() {
    }

    static void is(String call, long got, long due) {
        if (got != due) {
            tell(call + " answered " + got + ", due is " + due);
        }
    }

    static void is(String call, boolean got, boolean due) {
        if (got != due) {
            tell(call + " answered " + got + ", due is " + due);
        }
    }

    static void same(String what, String got, String due) {
        if (!got.equals(due)) {
            tell(what + ": " + got + ", due is " + due);
        }
    }

    static void noIndex(String call, Runnable run) {
        fails(call, IndexOutOfBoundsException.class, run);
    }

    static void noArgument(String call, Runnable run) {
        fails(call, IllegalArgumentException.class, run);
    }

    static void noState(String call, Runnable run) {
        fails(call, IllegalStateException.class, run);
    }

    // The very class: a class below it would be one that the machine throws by itself.
    private static void fails(String call, Class<?> due, Runnable run) {
        try {
            run.run();
        } catch (RuntimeException e) {
            if (e.getClass() != due) {
                tell(call + " threw " + e + ", due is " + due.getName());
            }
            return;
        }
        tell(call + " threw nothing, due is " + due.getName());
    }

    /** All that can be asked without changing the object. */
    static String stateOf(CurveSums x) {
        StringBuilder state = new StringBuilder("counts");
        for (int what = 0; what <= 6; what++) {
            state.append(' ').append(x.count(what));
        }
        for (int date = 0; date < x.count(3); date++) {
            state.append(" date").append(date).append('=').append(x.total(date)).append(" of");
            for (int year = 0; year < x.count(0); year++) {
                state.append(' ').append(x.weight(date, year));
            }
        }
        state.append(" slid");
        for (int year = 0; year < x.count(0); year++) {
            state.append(' ').append(x.slid(year));
        }
        return state.append(" wiggle ").append(x.wiggle()).append(spansOf(x)).toString();
    }

    static String spansOf(CurveSums x) {
        StringBuilder spans = new StringBuilder(" spans");
        for (int k = 0; k < 60; k++) {
            try {
                spans.append(" " + x.span(k, 0) + "-" + x.span(k, 1));
            } catch (IndexOutOfBoundsException e) {
                break;
            }
        }
        return spans.toString();
    }

    /** Brings a text to the pad, up to eight signs a call. */
    static int write(CurveSums x, String text) {
        int signs = x.count(5);
        for (int from = 0; from < text.length(); from += 8) {
            signs = x.unit(four(text, from), four(text, from + 4));
        }
        return signs;
    }

    private static int four(String text, int from) {
        int packed = 0;
        for (int i = 0; i < 4 && from + i < text.length(); i++) {
            packed |= text.charAt(from + i) << (8 * i);
        }
        return packed;
    }

    static int read(CurveSums x, String text) {
        write(x, text);
        return x.read();
    }

    /**
     * An object with the unit 900 and date 0, whose weight in a year is 900, 400, 100, 29 or 11 for 0, 1, 2, 3
     * or 4 years between its age and the row's, and 0 where NONE stands: no row.
     */
    static CurveSums withDistances(int... distances) {
        CurveSums x = new CurveSums(distances.length, 900);
        for (int year = 0; year < distances.length; year++) {
            if (distances[year] != CurveSums.NONE) {
                x.curve(year, 1000 + distances[year], 1);
            }
        }
        x.date(1000, 1);
        return x;
    }

    private static void tell(String text) {
        wrong++;
        System.out.println(text);
    }

    static void end() {
        if (wrong != 0) {
            System.out.println(wrong + " answers are not as due");
            System.exit(1);
        }
    }
}
