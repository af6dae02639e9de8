import java.util.function.Consumer;
import java.util.function.Supplier;

/** What the tests share: comparing answers, refused calls, and ending with 1 if one answer was wrong. */
final class Check {
    private static int wrong = 0;
    private static String sentence = "";

    private Check() {
    }

    /** The sentence of the document that the next answers are due by. */
    static void says(String words) {
        sentence = words;
    }

    static void is(String call, long got, long due) {
        if (got != due) {
            tell(call + " answered " + got + ", due is " + due);
        }
    }

    static void is(String call, boolean got, boolean due) {
        if (got != due) {
            tell(call + " answered " + got + ", due is " + due);
        }
    }

    static void same(String what, String got, String due) {
        if (!got.equals(due)) {
            tell(what + ": " + got + ", due is " + due);
        }
    }

    /** A date's weights, year by year from year 0 on. */
    static void weights(CurveSums x, int date, int... due) {
        for (int year = 0; year < due.length; year++) {
            is("weight(" + date + ", " + year + ")", x.weight(date, year), due[year]);
        }
    }

    /** The row's sums, year by year from year 0 on. */
    static void slids(CurveSums x, int... due) {
        for (int year = 0; year < due.length; year++) {
            is("slid(" + year + ")", x.slid(year), due[year]);
        }
    }

    static void noIndex(String call, Supplier<CurveSums> made, Consumer<CurveSums> run) {
        refuses(call, IndexOutOfBoundsException.class, made, run);
    }

    static void noArgument(String call, Supplier<CurveSums> made, Consumer<CurveSums> run) {
        refuses(call, IllegalArgumentException.class, made, run);
    }

    static void noState(String call, Supplier<CurveSums> made, Consumer<CurveSums> run) {
        refuses(call, IllegalStateException.class, made, run);
    }

    private static void refuses(String call, Class<?> due, Supplier<CurveSums> made, Consumer<CurveSums> run) {
        changesNothing(call, made, x -> fails(call, due, () -> run.accept(x)));
    }

    // The very class: a class below it would be one that the machine throws by itself.
    private static void fails(String call, Class<?> due, Runnable run) {
        try {
            run.run();
        } catch (RuntimeException e) {
            if (e.getClass() != due) {
                tell(call + " threw " + e + ", due is " + due.getName());
            }
            return;
        }
        tell(call + " threw nothing, due is " + due.getName());
    }

    /** Of two objects that were made alike one has the call and one has not: all that they tell later is the same. */
    static void changesNothing(String call, Supplier<CurveSums> made, Consumer<CurveSums> run) {
        CurveSums with = made.get();
        CurveSums without = made.get();
        run.accept(with);
        same(call + " changed the object", Reveal.all(with), Reveal.all(without));
    }

    /** Numbers that are not least .. most; the third has low bits that are. */
    static int[] beyond(int least, int most) {
        return new int[] {least - 1, most + 1, least + 65536, Integer.MIN_VALUE, Integer.MAX_VALUE};
    }

    private static void tell(String text) {
        wrong++;
        System.out.println(sentence.isEmpty() ? text : text + " (\"" + sentence + "\")");
    }

    static void end() {
        if (wrong != 0) {
            System.out.println(wrong + " answers are not as due");
            System.exit(1);
        }
    }
}
